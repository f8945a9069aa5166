theorem m71 : Cond.selects RX12 yX12_mayNot yX12_mayNot ∈ gd := gd_mem 71 (by decide +kernel) (by decide +kernel)
theorem m72 : Cond.selects RX12 yX12_openUp yX12_openUp ∈ gd := gd_mem 72 (by decide +kernel) (by decide +kernel)
theorem m73 : Cond.selects RX12 yX12_isFull yX12_isFull ∈ gd := gd_mem 73 (by decide +kernel) (by decide +kernel)
theorem m74 : Cond.selects RX12 yX12_countUnit yX12_countUnit ∈ gd := gd_mem 74 (by decide +kernel) (by decide +kernel)
theorem m75 : Cond.selects RX12 yX12_asked yX12_asked ∈ gd := gd_mem 75 (by decide +kernel) (by decide +kernel)
theorem m1335 : Cond.fieldLink RX12 312 "SlabWalkModel" "nUnits" "I" ∈ gd := gd_mem 1335 (by decide +kernel) (by decide +kernel)
theorem m1337 : Cond.fieldLink RX12 315 "SlabWalkModel" "ownUnits" "I" ∈ gd := gd_mem 1337 (by decide +kernel) (by decide +kernel)
theorem m1718 : Cond.methodLink RX12 318 yX12_mayNot ∈ gd := gd_mem 1718 (by decide +kernel) (by decide +kernel)
theorem m1720 : Cond.instanceMethod yX12_mayNot ∈ gd := gd_mem 1720 (by decide +kernel) (by decide +kernel)
theorem m1721 : Cond.code yX12_mayNot cX12_mayNot 1 (some .boolean) ∈ gd := gd_mem 1721 (by decide +kernel) (by decide +kernel)
theorem m1725 : Cond.methodLink RX12 321 yX12_openUp ∈ gd := gd_mem 1725 (by decide +kernel) (by decide +kernel)
theorem m1727 : Cond.instanceMethod yX12_openUp ∈ gd := gd_mem 1727 (by decide +kernel) (by decide +kernel)
theorem m1728 : Cond.code yX12_openUp cX12_openUp 2 none ∈ gd := gd_mem 1728 (by decide +kernel) (by decide +kernel)
theorem m1729 : Cond.methodLink RX12 324 yX12_isFull ∈ gd := gd_mem 1729 (by decide +kernel) (by decide +kernel)
theorem m1731 : Cond.instanceMethod yX12_isFull ∈ gd := gd_mem 1731 (by decide +kernel) (by decide +kernel)
theorem m1732 : Cond.code yX12_isFull cX12_isFull 1 (some .boolean) ∈ gd := gd_mem 1732 (by decide +kernel) (by decide +kernel)
theorem m1733 : Cond.methodLink RX12 327 yX12_countUnit ∈ gd := gd_mem 1733 (by decide +kernel) (by decide +kernel)
theorem m1735 : Cond.instanceMethod yX12_countUnit ∈ gd := gd_mem 1735 (by decide +kernel) (by decide +kernel)
theorem m1736 : Cond.code yX12_countUnit cX12_countUnit 1 none ∈ gd := gd_mem 1736 (by decide +kernel) (by decide +kernel)
theorem m1737 : Cond.methodLink RX12 330 yX12_asked ∈ gd := gd_mem 1737 (by decide +kernel) (by decide +kernel)
theorem m1739 : Cond.instanceMethod yX12_asked ∈ gd := gd_mem 1739 (by decide +kernel) (by decide +kernel)
theorem m1740 : Cond.code yX12_asked cX12_asked 1 (some .int) ∈ gd := gd_mem 1740 (by decide +kernel) (by decide +kernel)
theorem dX12_countUnit_0 : decode cX12_countUnit 0 = .ok (.aload_n 0, 1) := by decide +kernel
theorem dX12_countUnit_1 : decode cX12_countUnit 1 = .ok (.dup, 1) := by decide +kernel
theorem dX12_countUnit_2 : decode cX12_countUnit 2 = .ok (.getfield 312, 3) := by decide +kernel
theorem dX12_countUnit_5 : decode cX12_countUnit 5 = .ok (.iconst 1, 1) := by decide +kernel
theorem dX12_countUnit_6 : decode cX12_countUnit 6 = .ok (.iadd, 1) := by decide +kernel
theorem dX12_countUnit_7 : decode cX12_countUnit 7 = .ok (.putfield 312, 3) := by decide +kernel
theorem dX12_countUnit_10 : decode cX12_countUnit 10 = .ok (.aload_n 0, 1) := by decide +kernel
theorem dX12_countUnit_11 : decode cX12_countUnit 11 = .ok (.dup, 1) := by decide +kernel
theorem dX12_countUnit_12 : decode cX12_countUnit 12 = .ok (.getfield 315, 3) := by decide +kernel
theorem dX12_countUnit_15 : decode cX12_countUnit 15 = .ok (.iconst 1, 1) := by decide +kernel
theorem dX12_countUnit_16 : decode cX12_countUnit 16 = .ok (.iadd, 1) := by decide +kernel
theorem dX12_countUnit_17 : decode cX12_countUnit 17 = .ok (.putfield 315, 3) := by decide +kernel
theorem dX12_countUnit_20 : decode cX12_countUnit 20 = .ok (.return_, 1) := by decide +kernel
theorem dX12_isFull_0 : decode cX12_isFull 0 = .ok (.aload_n 0, 1) := by decide +kernel
theorem dX12_isFull_1 : decode cX12_isFull 1 = .ok (.getfield 312, 3) := by decide +kernel
theorem dX12_isFull_4 : decode cX12_isFull 4 = .ok (.bipush 90, 2) := by decide +kernel
theorem dX12_isFull_6 : decode cX12_isFull 6 = .ok (.if_icmp .eq 12, 3) := by decide +kernel
theorem dX12_isFull_9 : decode cX12_isFull 9 = .ok (.aload_n 0, 1) := by decide +kernel
theorem dX12_isFull_10 : decode cX12_isFull 10 = .ok (.getfield 315, 3) := by decide +kernel
theorem dX12_isFull_13 : decode cX12_isFull 13 = .ok (.bipush 30, 2) := by decide +kernel
theorem dX12_isFull_15 : decode cX12_isFull 15 = .ok (.if_icmp .ne 7, 3) := by decide +kernel
theorem dX12_isFull_18 : decode cX12_isFull 18 = .ok (.iconst 1, 1) := by decide +kernel
theorem dX12_isFull_19 : decode cX12_isFull 19 = .ok (.goto 4, 3) := by decide +kernel
theorem dX12_isFull_22 : decode cX12_isFull 22 = .ok (.iconst 0, 1) := by decide +kernel
theorem dX12_isFull_23 : decode cX12_isFull 23 = .ok (.ireturn, 1) := by decide +kernel
theorem dX12_openUp_0 : decode cX12_openUp 0 = .ok (.aload_n 0, 1) := by decide +kernel
theorem dX12_openUp_1 : decode cX12_openUp 1 = .ok (.getfield 39, 3) := by decide +kernel
theorem dX12_openUp_4 : decode cX12_openUp 4 = .ok (.aload_n 0, 1) := by decide +kernel
theorem dX12_openUp_5 : decode cX12_openUp 5 = .ok (.getfield 299, 3) := by decide +kernel
theorem dX12_openUp_8 : decode cX12_openUp 8 = .ok (.iload_n 1, 1) := by decide +kernel
theorem dX12_openUp_9 : decode cX12_openUp 9 = .ok (.iastore, 1) := by decide +kernel
theorem dX12_openUp_10 : decode cX12_openUp 10 = .ok (.aload_n 0, 1) := by decide +kernel
theorem dX12_openUp_11 : decode cX12_openUp 11 = .ok (.dup, 1) := by decide +kernel
theorem dX12_openUp_12 : decode cX12_openUp 12 = .ok (.getfield 299, 3) := by decide +kernel
theorem dX12_openUp_15 : decode cX12_openUp 15 = .ok (.iconst 1, 1) := by decide +kernel
theorem dX12_openUp_16 : decode cX12_openUp 16 = .ok (.iadd, 1) := by decide +kernel
theorem dX12_openUp_17 : decode cX12_openUp 17 = .ok (.putfield 299, 3) := by decide +kernel
theorem dX12_openUp_20 : decode cX12_openUp 20 = .ok (.aload_n 0, 1) := by decide +kernel
theorem dX12_openUp_21 : decode cX12_openUp 21 = .ok (.dup, 1) := by decide +kernel
theorem dX12_openUp_22 : decode cX12_openUp 22 = .ok (.getfield 309, 3) := by decide +kernel
theorem dX12_openUp_25 : decode cX12_openUp 25 = .ok (.iconst 1, 1) := by decide +kernel
theorem dX12_openUp_26 : decode cX12_openUp 26 = .ok (.iadd, 1) := by decide +kernel
theorem dX12_openUp_27 : decode cX12_openUp 27 = .ok (.putfield 309, 3) := by decide +kernel
theorem dX12_openUp_30 : decode cX12_openUp 30 = .ok (.aload_n 0, 1) := by decide +kernel
theorem dX12_openUp_31 : decode cX12_openUp 31 = .ok (.getfield 218, 3) := by decide +kernel
theorem dX12_openUp_34 : decode cX12_openUp 34 = .ok (.ifCond .ne 7, 3) := by decide +kernel
theorem dX12_openUp_37 : decode cX12_openUp 37 = .ok (.aload_n 0, 1) := by decide +kernel
theorem dX12_openUp_38 : decode cX12_openUp 38 = .ok (.invokevirtual 279, 3) := by decide +kernel
theorem dX12_openUp_41 : decode cX12_openUp 41 = .ok (.return_, 1) := by decide +kernel
theorem dX12_sign_0 : decode cX12_sign 0 = .ok (.aload_n 0, 1) := by decide +kernel
theorem dX12_sign_1 : decode cX12_sign 1 = .ok (.ldc2_w 257, 3) := by decide +kernel
theorem dX12_sign_4 : decode cX12_sign 4 = .ok (.invokevirtual 275, 3) := by decide +kernel
theorem dX12_sign_7 : decode cX12_sign 7 = .ok (.ifCond .eq 6, 3) := by decide +kernel
theorem dX12_sign_10 : decode cX12_sign 10 = .ok (.bipush 38, 2) := by decide +kernel
theorem dX12_sign_12 : decode cX12_sign 12 = .ok (.ireturn, 1) := by decide +kernel
theorem dX12_sign_13 : decode cX12_sign 13 = .ok (.aload_n 0, 1) := by decide +kernel
theorem dX12_sign_14 : decode cX12_sign 14 = .ok (.ldc2_w 259, 3) := by decide +kernel
theorem dX12_sign_17 : decode cX12_sign 17 = .ok (.invokevirtual 275, 3) := by decide +kernel
theorem dX12_sign_20 : decode cX12_sign 20 = .ok (.ifCond .eq 6, 3) := by decide +kernel
theorem dX12_sign_23 : decode cX12_sign 23 = .ok (.bipush 124, 2) := by decide +kernel
theorem dX12_sign_25 : decode cX12_sign 25 = .ok (.ireturn, 1) := by decide +kernel
theorem dX12_sign_26 : decode cX12_sign 26 = .ok (.aload_n 0, 1) := by decide +kernel
theorem dX12_sign_27 : decode cX12_sign 27 = .ok (.getfield 205, 3) := by decide +kernel
theorem dX12_sign_30 : decode cX12_sign 30 = .ok (.bipush 60, 2) := by decide +kernel
theorem dX12_sign_32 : decode cX12_sign 32 = .ok (.if_icmp .eq 66, 3) := by decide +kernel
theorem dX12_sign_35 : decode cX12_sign 35 = .ok (.aload_n 0, 1) := by decide +kernel
theorem dX12_sign_36 : decode cX12_sign 36 = .ok (.getfield 205, 3) := by decide +kernel
theorem dX12_sign_39 : decode cX12_sign 39 = .ok (.bipush 62, 2) := by decide +kernel
theorem dX12_sign_41 : decode cX12_sign 41 = .ok (.if_icmp .eq 57, 3) := by decide +kernel
theorem dX12_sign_44 : decode cX12_sign 44 = .ok (.aload_n 0, 1) := by decide +kernel
theorem dX12_sign_45 : decode cX12_sign 45 = .ok (.getfield 205, 3) := by decide +kernel
theorem dX12_sign_48 : decode cX12_sign 48 = .ok (.bipush 61, 2) := by decide +kernel
theorem dX12_sign_50 : decode cX12_sign 50 = .ok (.if_icmp .eq 48, 3) := by decide +kernel
theorem dX12_sign_53 : decode cX12_sign 53 = .ok (.aload_n 0, 1) := by decide +kernel
theorem dX12_sign_54 : decode cX12_sign 54 = .ok (.getfield 205, 3) := by decide +kernel
theorem dX12_sign_57 : decode cX12_sign 57 = .ok (.bipush 43, 2) := by decide +kernel
theorem dX12_sign_59 : decode cX12_sign 59 = .ok (.if_icmp .eq 39, 3) := by decide +kernel
theorem dX12_sign_62 : decode cX12_sign 62 = .ok (.aload_n 0, 1) := by decide +kernel
theorem dX12_sign_63 : decode cX12_sign 63 = .ok (.getfield 205, 3) := by decide +kernel
theorem dX12_sign_66 : decode cX12_sign 66 = .ok (.bipush 45, 2) := by decide +kernel
theorem dX12_sign_68 : decode cX12_sign 68 = .ok (.if_icmp .eq 30, 3) := by decide +kernel
theorem dX12_sign_71 : decode cX12_sign 71 = .ok (.aload_n 0, 1) := by decide +kernel
theorem dX12_sign_72 : decode cX12_sign 72 = .ok (.getfield 205, 3) := by decide +kernel
theorem dX12_sign_75 : decode cX12_sign 75 = .ok (.bipush 42, 2) := by decide +kernel
theorem dX12_sign_77 : decode cX12_sign 77 = .ok (.if_icmp .eq 21, 3) := by decide +kernel
theorem dX12_sign_80 : decode cX12_sign 80 = .ok (.aload_n 0, 1) := by decide +kernel
theorem dX12_sign_81 : decode cX12_sign 81 = .ok (.getfield 205, 3) := by decide +kernel
theorem dX12_sign_84 : decode cX12_sign 84 = .ok (.bipush 47, 2) := by decide +kernel
theorem dX12_sign_86 : decode cX12_sign 86 = .ok (.if_icmp .eq 12, 3) := by decide +kernel
theorem dX12_sign_89 : decode cX12_sign 89 = .ok (.aload_n 0, 1) := by decide +kernel
theorem dX12_sign_90 : decode cX12_sign 90 = .ok (.getfield 205, 3) := by decide +kernel
theorem dX12_sign_93 : decode cX12_sign 93 = .ok (.bipush 37, 2) := by decide +kernel
theorem dX12_sign_95 : decode cX12_sign 95 = .ok (.if_icmp .ne 10, 3) := by decide +kernel
theorem dX12_sign_98 : decode cX12_sign 98 = .ok (.aload_n 0, 1) := by decide +kernel
theorem dX12_sign_99 : decode cX12_sign 99 = .ok (.getfield 205, 3) := by decide +kernel
theorem dX12_sign_102 : decode cX12_sign 102 = .ok (.goto 4, 3) := by decide +kernel
theorem dX12_sign_105 : decode cX12_sign 105 = .ok (.iconst 0, 1) := by decide +kernel
theorem dX12_sign_106 : decode cX12_sign 106 = .ok (.ireturn, 1) := by decide +kernel
theorem dX12_unit_0 : decode cX12_unit 0 = .ok (.iconst 1, 1) := by decide +kernel
theorem dX12_unit_1 : decode cX12_unit 1 = .ok (.istore_n 1, 1) := by decide +kernel
theorem dX12_unit_2 : decode cX12_unit 2 = .ok (.iload_n 1, 1) := by decide +kernel
theorem dX12_unit_3 : decode cX12_unit 3 = .ok (.ifCond .eq 98, 3) := by decide +kernel
theorem dX12_unit_6 : decode cX12_unit 6 = .ok (.aload_n 0, 1) := by decide +kernel
theorem dX12_unit_7 : decode cX12_unit 7 = .ok (.getfield 218, 3) := by decide +kernel
theorem dX12_unit_10 : decode cX12_unit 10 = .ok (.ifCond .ne 91, 3) := by decide +kernel
theorem dX12_unit_13 : decode cX12_unit 13 = .ok (.aload_n 0, 1) := by decide +kernel
theorem dX12_unit_14 : decode cX12_unit 14 = .ok (.ldc2_w 261, 3) := by decide +kernel
theorem dX12_unit_17 : decode cX12_unit 17 = .ok (.invokevirtual 275, 3) := by decide +kernel
theorem dX12_unit_20 : decode cX12_unit 20 = .ok (.ifCond .eq 33, 3) := by decide +kernel
theorem dX12_unit_23 : decode cX12_unit 23 = .ok (.aload_n 0, 1) := by decide +kernel
theorem dX12_unit_24 : decode cX12_unit 24 = .ok (.invokevirtual 318, 3) := by decide +kernel
theorem dX12_unit_27 : decode cX12_unit 27 = .ok (.ifCond .eq 26, 3) := by decide +kernel
theorem dX12_unit_30 : decode cX12_unit 30 = .ok (.aload_n 0, 1) := by decide +kernel
theorem dX12_unit_31 : decode cX12_unit 31 = .ok (.getfield 309, 3) := by decide +kernel
theorem dX12_unit_34 : decode cX12_unit 34 = .ok (.bipush 6, 2) := by decide +kernel
theorem dX12_unit_36 : decode cX12_unit 36 = .ok (.if_icmp .le 8, 3) := by decide +kernel
theorem dX12_unit_39 : decode cX12_unit 39 = .ok (.aload_n 0, 1) := by decide +kernel
theorem dX12_unit_40 : decode cX12_unit 40 = .ok (.iconst 2, 1) := by decide +kernel
theorem dX12_unit_41 : decode cX12_unit 41 = .ok (.invokevirtual 282, 3) := by decide +kernel
theorem dX12_unit_44 : decode cX12_unit 44 = .ok (.aload_n 0, 1) := by decide +kernel
theorem dX12_unit_45 : decode cX12_unit 45 = .ok (.bipush 21, 2) := by decide +kernel
theorem dX12_unit_47 : decode cX12_unit 47 = .ok (.invokevirtual 321, 3) := by decide +kernel
theorem dX12_unit_50 : decode cX12_unit 50 = .ok (.goto (-48), 3) := by decide +kernel
theorem dX12_unit_53 : decode cX12_unit 53 = .ok (.aload_n 0, 1) := by decide +kernel
theorem dX12_unit_54 : decode cX12_unit 54 = .ok (.getfield 205, 3) := by decide +kernel
theorem dX12_unit_57 : decode cX12_unit 57 = .ok (.bipush 40, 2) := by decide +kernel
theorem dX12_unit_59 : decode cX12_unit 59 = .ok (.if_icmp .ne 37, 3) := by decide +kernel
theorem dX12_unit_62 : decode cX12_unit 62 = .ok (.aload_n 0, 1) := by decide +kernel
theorem dX12_unit_63 : decode cX12_unit 63 = .ok (.invokevirtual 324, 3) := by decide +kernel
theorem dX12_unit_66 : decode cX12_unit 66 = .ok (.ifCond .ne 12, 3) := by decide +kernel
theorem dX12_unit_69 : decode cX12_unit 69 = .ok (.aload_n 0, 1) := by decide +kernel
theorem dX12_unit_70 : decode cX12_unit 70 = .ok (.getfield 309, 3) := by decide +kernel
theorem dX12_unit_73 : decode cX12_unit 73 = .ok (.bipush 6, 2) := by decide +kernel
theorem dX12_unit_75 : decode cX12_unit 75 = .ok (.if_icmp .le 8, 3) := by decide +kernel
theorem dX12_unit_78 : decode cX12_unit 78 = .ok (.aload_n 0, 1) := by decide +kernel
theorem dX12_unit_79 : decode cX12_unit 79 = .ok (.iconst 2, 1) := by decide +kernel
theorem dX12_unit_80 : decode cX12_unit 80 = .ok (.invokevirtual 282, 3) := by decide +kernel
theorem dX12_unit_83 : decode cX12_unit 83 = .ok (.aload_n 0, 1) := by decide +kernel
theorem dX12_unit_84 : decode cX12_unit 84 = .ok (.invokevirtual 327, 3) := by decide +kernel
theorem dX12_unit_87 : decode cX12_unit 87 = .ok (.aload_n 0, 1) := by decide +kernel
theorem dX12_unit_88 : decode cX12_unit 88 = .ok (.bipush 20, 2) := by decide +kernel
theorem dX12_unit_90 : decode cX12_unit 90 = .ok (.invokevirtual 321, 3) := by decide +kernel
theorem dX12_unit_93 : decode cX12_unit 93 = .ok (.goto (-91), 3) := by decide +kernel
theorem dX12_unit_96 : decode cX12_unit 96 = .ok (.iconst 0, 1) := by decide +kernel
theorem dX12_unit_97 : decode cX12_unit 97 = .ok (.istore_n 1, 1) := by decide +kernel
theorem dX12_unit_98 : decode cX12_unit 98 = .ok (.goto (-96), 3) := by decide +kernel
theorem dX12_unit_101 : decode cX12_unit 101 = .ok (.aload_n 0, 1) := by decide +kernel
theorem dX12_unit_102 : decode cX12_unit 102 = .ok (.getfield 218, 3) := by decide +kernel
theorem dX12_unit_105 : decode cX12_unit 105 = .ok (.ifCond .le 4, 3) := by decide +kernel
theorem dX12_unit_108 : decode cX12_unit 108 = .ok (.return_, 1) := by decide +kernel
theorem dX12_unit_109 : decode cX12_unit 109 = .ok (.aload_n 0, 1) := by decide +kernel
theorem dX12_unit_110 : decode cX12_unit 110 = .ok (.invokevirtual 330, 3) := by decide +kernel
theorem dX12_unit_113 : decode cX12_unit 113 = .ok (.istore_n 2, 1) := by decide +kernel
theorem dX12_unit_114 : decode cX12_unit 114 = .ok (.aload_n 0, 1) := by decide +kernel
theorem dX12_unit_115 : decode cX12_unit 115 = .ok (.getfield 205, 3) := by decide +kernel
theorem dX12_unit_118 : decode cX12_unit 118 = .ok (.iconst 2, 1) := by decide +kernel
theorem dX12_unit_119 : decode cX12_unit 119 = .ok (.if_icmp .eq 7, 3) := by decide +kernel
theorem dX12_unit_122 : decode cX12_unit 122 = .ok (.iload_n 2, 1) := by decide +kernel
theorem dX12_unit_123 : decode cX12_unit 123 = .ok (.ifCond .lt 10, 3) := by decide +kernel
theorem dX12_unit_126 : decode cX12_unit 126 = .ok (.aload_n 0, 1) := by decide +kernel
theorem dX12_unit_127 : decode cX12_unit 127 = .ok (.invokevirtual 324, 3) := by decide +kernel
theorem dX12_unit_130 : decode cX12_unit 130 = .ok (.ifCond .eq 8, 3) := by decide +kernel
theorem dX12_unit_133 : decode cX12_unit 133 = .ok (.aload_n 0, 1) := by decide +kernel
theorem dX12_unit_134 : decode cX12_unit 134 = .ok (.iconst 2, 1) := by decide +kernel
theorem dX12_unit_135 : decode cX12_unit 135 = .ok (.invokevirtual 282, 3) := by decide +kernel
theorem dX12_unit_138 : decode cX12_unit 138 = .ok (.aload_n 0, 1) := by decide +kernel
theorem dX12_unit_139 : decode cX12_unit 139 = .ok (.getfield 218, 3) := by decide +kernel
theorem dX12_unit_142 : decode cX12_unit 142 = .ok (.ifCond .le 4, 3) := by decide +kernel
theorem dX12_unit_145 : decode cX12_unit 145 = .ok (.return_, 1) := by decide +kernel
theorem dX12_unit_146 : decode cX12_unit 146 = .ok (.aload_n 0, 1) := by decide +kernel
theorem dX12_unit_147 : decode cX12_unit 147 = .ok (.invokevirtual 327, 3) := by decide +kernel
theorem dX12_unit_150 : decode cX12_unit 150 = .ok (.aload_n 0, 1) := by decide +kernel
theorem dX12_unit_151 : decode cX12_unit 151 = .ok (.iload_n 2, 1) := by decide +kernel
theorem dX12_unit_152 : decode cX12_unit 152 = .ok (.ifCond .ge 7, 3) := by decide +kernel
theorem dX12_unit_155 : decode cX12_unit 155 = .ok (.iconst 0, 1) := by decide +kernel
theorem dX12_unit_156 : decode cX12_unit 156 = .ok (.goto 4, 3) := by decide +kernel
theorem dX12_unit_159 : decode cX12_unit 159 = .ok (.iconst 1, 1) := by decide +kernel
theorem dX12_unit_160 : decode cX12_unit 160 = .ok (.iload_n 2, 1) := by decide +kernel
theorem dX12_unit_161 : decode cX12_unit 161 = .ok (.ifCond .ge 10, 3) := by decide +kernel
theorem dX12_unit_164 : decode cX12_unit 164 = .ok (.aload_n 0, 1) := by decide +kernel
theorem dX12_unit_165 : decode cX12_unit 165 = .ok (.getfield 202, 3) := by decide +kernel
theorem dX12_unit_168 : decode cX12_unit 168 = .ok (.goto 4, 3) := by decide +kernel
theorem dX12_unit_171 : decode cX12_unit 171 = .ok (.iload_n 2, 1) := by decide +kernel
theorem dX12_unit_172 : decode cX12_unit 172 = .ok (.invokevirtual 305, 3) := by decide +kernel
theorem dX12_unit_175 : decode cX12_unit 175 = .ok (.aload_n 0, 1) := by decide +kernel
theorem dX12_unit_176 : decode cX12_unit 176 = .ok (.invokevirtual 279, 3) := by decide +kernel
theorem dX12_unit_179 : decode cX12_unit 179 = .ok (.return_, 1) := by decide +kernel
set_option maxHeartbeats 4000000 in
set_option maxRecDepth 100000 in
theorem n_isFull (l : Launch) (D : va_G) (k : KT) (A : Nat → Prop) (a : Nat → Nat) (z : SK) (G : GS)   : Met l yX12_isFull (WS yX12_isFull cX12_isFull 1 (some .boolean)) ({ frames := 0, cells := 0, slots := 0, locals := 0 }) (va_Pc [.ref (a 66)] (cW D k A a z G)) (va_Qi (fun (r : Int32) (G1 : GS) => Q_isFull G r G1) (fun (G1 : GS) t => Wd D k A a G1 t.heap) A) 0 0 A := by
  refine Met.ofW (cc := cX12_isFull) (maxL := 1) (ret := (some .boolean)) (by decide) rfl ?_
  intro p e s m args below meth c s₁ B hml hv
  obtain ⟨rfl, hW, hB_G, hK, hZ⟩ := hv
  have hx := B.exec
  have hb := B.bytes
  have hr := B.returns
  have hts := atoms_spec (ws := WS yX12_isFull cX12_isFull 1 (some .boolean)) B.pre
  have hgd : ∀ w ∈ gd, w ∈ WS yX12_isFull cX12_isFull 1 (some .boolean) := fun w h => List.mem_cons_of_mem _ h
  have hg : ∀ w ∈ gd, w.before _ s = true := fun w h => hts w (hgd w h)
  have hown : s.vm.findClass RX12 = some m.cls := findClass_of_methodNamed B.named
  have hS : va_S A s.heap s.heap [] := va_S.rf
  have hF : Fr [] [] G G := Fr.rf
  have hl := lv_entry ([.ref (a 66)]) (n := 1) (Nat.le_of_ble_eq_true rfl)
  rw [lg_entry_eq]
  generalize (lg_sl ([.ref (a 66)]) ++ List.replicate (1 - (lg_sl ([.ref (a 66)])).length) Slot.unset).toArray = ls at hl ⊢
  have hl : lv_has ls 1 [(0, .ref (a 66))] := hl
  refine lv_aload_n hx hb dX12_isFull_0 rfl (lv_at hl 0 rfl) ?_
  refine S_getI (v := (G.1 66 21)) (C := RX12) (T := TX12) (N := 89) hx hb hg iX12 hown hK hW kd_66 rfl 21 (by decide) (hg (Cond.fieldLink RX12 312 "SlabWalkModel" "nUnits" "I") m1335) (fun _ h9 => h9) rfl rfl dX12_isFull_1 ?_
  refine lv_bipush (v := 90) hx hb dX12_isFull_4 (by decide) ?_
  refine lv_icmp_eq (tgt := 18) hx hb dX12_isFull_6 (by decide) (fun c_1 => ?_) (fun c_1 => ?_)
  · have c_1 : (G.1 66 21).toInt = 90 := xI_eq rfl rfl c_1
    refine lv_iconst (v := 1) hx hb dX12_isFull_18 (by decide) ?_
    refine lv_goto (tgt := 23) hx hb dX12_isFull_19 (by decide) ?_
    have b_2 : 0 ≤ (G.1 66 23).toInt ∧ (G.1 66 23).toInt ≤ 40 := hB_G.i 66 23 rfl rfl
    exact W.zret (v := 1) hx hb hr (by decide) (fun t ht _ => ⟨⟨1, G, rfl, (Q_isFull_mk ⟨hB_G, hF, ⟨by decide, by decide⟩, (by have hq : (1 : Int32).toInt = 1 := rfl; (try dsimp only); omega), (Or.inl ⟨c_1, ⟨rfl, rfl⟩⟩)⟩), wd_t ht hW⟩, hS.F ht⟩) hS.2.2 dX12_isFull_23
  · have c_1 : (G.1 66 21).toInt ≠ 90 := xI_ne rfl rfl c_1
    refine lv_aload_n hx hb dX12_isFull_9 rfl (lv_at hl 0 rfl) ?_
    have b_3 : 0 ≤ (G.1 66 23).toInt ∧ (G.1 66 23).toInt ≤ 40 := hB_G.i 66 23 rfl rfl
    refine S_getI (v := (G.1 66 23)) (C := RX12) (T := TX12) (N := 89) hx hb hg iX12 hown hK hW kd_66 rfl 23 (by decide) (hg (Cond.fieldLink RX12 315 "SlabWalkModel" "ownUnits" "I") m1337) (fun _ h9 => h9) rfl rfl dX12_isFull_10 ?_
    refine lv_bipush (v := 30) hx hb dX12_isFull_13 (by decide) ?_
    refine lv_icmp_ne (tgt := 22) hx hb dX12_isFull_15 (by decide) (fun c_4 => ?_) (fun c_4 => ?_)
    · have c_4 : (G.1 66 23).toInt ≠ 30 := xI_ne rfl rfl c_4
      refine lv_iconst (v := 0) hx hb dX12_isFull_22 (by decide) ?_
      exact W.zret (v := 0) hx hb hr (by decide) (fun t ht _ => ⟨⟨0, G, rfl, (Q_isFull_mk ⟨hB_G, hF, ⟨by decide, by decide⟩, (by have hq : (0 : Int32).toInt = 0 := rfl; (try dsimp only); omega), (Or.inr ⟨c_1, (Or.inr ⟨c_4, ⟨rfl, rfl⟩⟩)⟩)⟩), wd_t ht hW⟩, hS.F ht⟩) hS.2.2 dX12_isFull_23
    · have c_4 : (G.1 66 23).toInt = 30 := xI_eq rfl rfl c_4
      refine lv_iconst (v := 1) hx hb dX12_isFull_18 (by decide) ?_
      refine lv_goto (tgt := 23) hx hb dX12_isFull_19 (by decide) ?_
      exact W.zret (v := 1) hx hb hr (by decide) (fun t ht _ => ⟨⟨1, G, rfl, (Q_isFull_mk ⟨hB_G, hF, ⟨by decide, by decide⟩, (by have hq : (1 : Int32).toInt = 1 := rfl; (try dsimp only); omega), (Or.inr ⟨c_1, (Or.inl ⟨c_4, ⟨rfl, rfl⟩⟩)⟩)⟩), wd_t ht hW⟩, hS.F ht⟩) hS.2.2 dX12_isFull_23

set_option maxHeartbeats 4000000 in
set_option maxRecDepth 100000 in
theorem n_countUnit (l : Launch) (D : va_G) (k : KT) (A : Nat → Prop) (a : Nat → Nat) (z : SK) (G : GS)  (how : (G.1 66 23).toInt ≤ 39) : Met l yX12_countUnit (WS yX12_countUnit cX12_countUnit 1 none) ({ frames := 0, cells := 0, slots := 0, locals := 0 }) (va_Pc [.ref (a 66)] (cW D k A a z G)) (va_Qv (fun (G1 : GS) => Q_countUnit G G1) (fun (G1 : GS) t => Wd D k A a G1 t.heap) A) 0 0 A := by
  refine Met.ofW (cc := cX12_countUnit) (maxL := 1) (ret := none) (by decide) rfl ?_
  intro p e s m args below meth c s₁ B hml hv
  obtain ⟨rfl, hW, hB_G, hK, hZ⟩ := hv
  have hx := B.exec
  have hb := B.bytes
  have hr := B.returns
  have hts := atoms_spec (ws := WS yX12_countUnit cX12_countUnit 1 none) B.pre
  have hgd : ∀ w ∈ gd, w ∈ WS yX12_countUnit cX12_countUnit 1 none := fun w h => List.mem_cons_of_mem _ h
  have hg : ∀ w ∈ gd, w.before _ s = true := fun w h => hts w (hgd w h)
  have hown : s.vm.findClass RX12 = some m.cls := findClass_of_methodNamed B.named
  have hS : va_S A s.heap s.heap [] := va_S.rf
  have hF : Fr [] [(66, 21), (66, 23)] G G := Fr.rf
  have hl := lv_entry ([.ref (a 66)]) (n := 1) (Nat.le_of_ble_eq_true rfl)
  rw [lg_entry_eq]
  generalize (lg_sl ([.ref (a 66)]) ++ List.replicate (1 - (lg_sl ([.ref (a 66)])).length) Slot.unset).toArray = ls at hl ⊢
  have hl : lv_has ls 1 [(0, .ref (a 66))] := hl
  refine lv_aload_n hx hb dX12_countUnit_0 rfl (lv_at hl 0 rfl) ?_
  refine lv_dup hx hb dX12_countUnit_1 rfl ?_
  refine S_getI (v := (G.1 66 21)) (C := RX12) (T := TX12) (N := 89) hx hb hg iX12 hown hK hW kd_66 rfl 21 (by decide) (hg (Cond.fieldLink RX12 312 "SlabWalkModel" "nUnits" "I") m1335) (fun _ h9 => h9) rfl rfl dX12_countUnit_2 ?_
  refine lv_iconst (v := 1) hx hb dX12_countUnit_5 (by decide) ?_
  refine lv_iadd hx hb dX12_countUnit_6 ?_
  refine lv_topi (fun y_1 ey_1 => ?_)
  refine S_putI (ty := .int) (C := RX12) (T := TX12) (N := 89) hx hb hg iX12 tyX12 tyX12_ok nmX12 hown hK hW hS kd_66 rfl 21 (by decide) (hg (Cond.fieldLink RX12 312 "SlabWalkModel" "nUnits" "I") m1335) (fun _ h9 => h9) rfl (by decide +kernel) rfl rfl rfl dX12_countUnit_7 (fun G_2 H locs eG_2 hW hS => ?_)
  have hB_G_2 : Bd G_2 := hB_G.put (lo := (-2147483648)) (hi := 2147483647) eG_2 rfl rfl rfl (tI_rng _).1 (tI_rng _).2 (hB_G.2.put eG_2 rfl)
  have hF := hF.put eG_2 (Or.inr (by decide))
  refine lv_aload_n hx hb dX12_countUnit_10 rfl (lv_at hl 0 rfl) ?_
  refine lv_dup hx hb dX12_countUnit_11 rfl ?_
  have b_3 : 0 ≤ (G.1 66 23).toInt ∧ (G.1 66 23).toInt ≤ 40 := hB_G.i 66 23 rfl rfl
  refine S_getI (v := (G.1 66 23)) (C := RX12) (T := TX12) (N := 89) hx hb hg iX12 hown hK hW kd_66 rfl 23 (by decide) (hg (Cond.fieldLink RX12 315 "SlabWalkModel" "ownUnits" "I") m1337) (fun _ h9 => h9) rfl (gp_ne eG_2 (by decide)) dX12_countUnit_12 ?_
  refine lv_iconst (v := 1) hx hb dX12_countUnit_15 (by decide) ?_
  refine lv_iadd hx hb dX12_countUnit_16 ?_
  refine lv_topi (fun y_4 ey_4 => ?_)
  have ty_4 : y_4.toInt = (G.1 66 23).toInt + 1 := xI_add rfl rfl ey_4 (by omega) (by omega)
  refine S_putI (ty := .int) (C := RX12) (T := TX12) (N := 89) hx hb hg iX12 tyX12 tyX12_ok nmX12 hown hK hW hS kd_66 rfl 23 (by decide) (hg (Cond.fieldLink RX12 315 "SlabWalkModel" "ownUnits" "I") m1337) (fun _ h9 => h9) rfl (by decide +kernel) rfl rfl rfl dX12_countUnit_17 (fun G_5 H locs eG_5 hW hS => ?_)
  have hB_G_5 : Bd G_5 := hB_G_2.put (V := y_4.toInt) (lo := 0) (hi := 40) eG_5 rfl rfl rfl (by omega) (by omega) (hB_G_2.2.put eG_5 rfl)
  have hF := hF.put eG_5 (Or.inr (by decide))
  have g_6 : (G_5.1 66 23).toInt = y_4.toInt := by rw [show G_5.1 66 23 = y_4 from (gp_eq eG_5)]
  exact W.vret hx hb hr (fun t ht _ => ⟨⟨G_5, rfl, (Q_countUnit_mk ⟨hB_G_5, hF, (by omega), ⟨y_1, ey_1, ⟨y_4, ty_4, ⟨((Fr.rf.put eG_2 (Or.inr (by decide))).put eG_5 (Or.inr (by decide))), ((gp_ne eG_5 (by decide)).trans (gp_eq eG_2)), (gp_eq eG_5)⟩⟩⟩⟩), wd_t ht hW⟩, hS.F ht⟩) hS.2.2 dX12_countUnit_20

set_option maxHeartbeats 4000000 in
set_option maxRecDepth 100000 in
theorem n_openUp (l : Launch) (D : va_G) (k : KT) (A : Nat → Prop) (a : Nat → Nat) (z : SK) (G : GS) (p0 : Int32) (ha_p0 : 20 ≤ p0.toInt ∧ p0.toInt ≤ 21) (hop : (G.1 66 20).toInt ≤ 159 ∧ (G.1 66 24).toInt ≤ 199) : Met l yX12_openUp (WS yX12_openUp cX12_openUp 2 none) ({ frames := 2, cells := 0, slots := 0, locals := 43 }) (va_Pc [.ref (a 66), .int p0] (cW D k A a z G)) (va_Qv (fun (G1 : GS) => Q_openUp p0 G G1) (fun (G1 : GS) t => Wd D k A a G1 t.heap) A) 0 0 A := by
  refine Met.ofW (cc := cX12_openUp) (maxL := 2) (ret := none) (by decide) rfl ?_
  intro p e s m args below meth c s₁ B hml hv
  obtain ⟨rfl, hW, hB_G, hK, hZ⟩ := hv
  have hx := B.exec
  have hb := B.bytes
  have hr := B.returns
  have hts := atoms_spec (ws := WS yX12_openUp cX12_openUp 2 none) B.pre
  have hgd : ∀ w ∈ gd, w ∈ WS yX12_openUp cX12_openUp 2 none := fun w h => List.mem_cons_of_mem _ h
  have hg : ∀ w ∈ gd, w.before _ s = true := fun w h => hts w (hgd w h)
  have hown : s.vm.findClass RX12 = some m.cls := findClass_of_methodNamed B.named
  have hS : va_S A s.heap s.heap [] := va_S.rf
  have hF : Fr [75] [(66, 4), (66, 6), (66, 7), (66, 8), (66, 9), (66, 20), (66, 24)] G G := Fr.rf
  have hl := lv_entry ([.ref (a 66), .int p0]) (n := 2) (Nat.le_of_ble_eq_true rfl)
  rw [lg_entry_eq]
  generalize (lg_sl ([.ref (a 66), .int p0]) ++ List.replicate (2 - (lg_sl ([.ref (a 66), .int p0])).length) Slot.unset).toArray = ls at hl ⊢
  have hl : lv_has ls 2 [(0, .ref (a 66)), (1, .int p0)] := hl
  refine lv_aload_n hx hb dX12_openUp_0 rfl (lv_at hl 0 rfl) ?_
  refine S_getR (n := 75) (C := RX12) (T := TX12) (N := 89) hx hb hg iX12 hown hK hW kd_66 rfl 17 (by decide) (hg (Cond.fieldLink RX12 39 "SlabWalkModel" "open" "[I") m1331) (fun _ h9 => h9) rfl dX12_openUp_1 ?_
  refine lv_aload_n hx hb dX12_openUp_4 rfl (lv_at hl 0 rfl) ?_
  have b_1 : 0 ≤ (G.1 66 20).toInt ∧ (G.1 66 20).toInt ≤ 160 := hB_G.i 66 20 rfl rfl
  refine S_getI (v := (G.1 66 20)) (C := RX12) (T := TX12) (N := 89) hx hb hg iX12 hown hK hW kd_66 rfl 20 (by decide) (hg (Cond.fieldLink RX12 299 "SlabWalkModel" "opens" "I") m1334) (fun _ h9 => h9) rfl rfl dX12_openUp_5 ?_
  refine lv_iload_n hx hb dX12_openUp_8 rfl (lv_at hl 1 rfl) ?_
  refine S_iast hx hb hK hW hS kd_75 (vin (by omega) (by omega)) dX12_openUp_9 (fun G_2 H locs eG_2 hW hS => ?_)
  have hB_G_2 : Bd G_2 := hB_G.put (lo := (-2147483648)) (hi := 2147483647) eG_2 rfl rfl rfl (tI_rng _).1 (tI_rng _).2 (hB_G.2.put eG_2 rfl)
  have hF := hF.put eG_2 (Or.inl (by decide))
  refine lv_aload_n hx hb dX12_openUp_10 rfl (lv_at hl 0 rfl) ?_
  refine lv_dup hx hb dX12_openUp_11 rfl ?_
  refine S_getI (v := (G.1 66 20)) (C := RX12) (T := TX12) (N := 89) hx hb hg iX12 hown hK hW kd_66 rfl 20 (by decide) (hg (Cond.fieldLink RX12 299 "SlabWalkModel" "opens" "I") m1334) (fun _ h9 => h9) rfl ((gp_ne eG_2 (fun q => absurd q.1 (by decide))).trans (rfl)) dX12_openUp_12 ?_
  refine lv_iconst (v := 1) hx hb dX12_openUp_15 (by decide) ?_
  refine lv_iadd hx hb dX12_openUp_16 ?_
  refine lv_topi (fun y_3 ey_3 => ?_)
  have ty_3 : y_3.toInt = (G.1 66 20).toInt + 1 := xI_add rfl rfl ey_3 (by omega) (by omega)
  refine S_putI (ty := .int) (C := RX12) (T := TX12) (N := 89) hx hb hg iX12 tyX12 tyX12_ok nmX12 hown hK hW hS kd_66 rfl 20 (by decide) (hg (Cond.fieldLink RX12 299 "SlabWalkModel" "opens" "I") m1334) (fun _ h9 => h9) rfl (by decide +kernel) rfl rfl rfl dX12_openUp_17 (fun G_4 H locs eG_4 hW hS => ?_)
  have hB_G_4 : Bd G_4 := hB_G_2.put (V := y_3.toInt) (lo := 0) (hi := 160) eG_4 rfl rfl rfl (by omega) (by omega) (hB_G_2.2.put eG_4 rfl)
  have hF := hF.put eG_4 (Or.inr (by decide))
  have u_5 := gh_push eG_2 eG_4 (by omega) (by omega) (by omega)
  refine lv_aload_n hx hb dX12_openUp_20 rfl (lv_at hl 0 rfl) ?_
  refine lv_dup hx hb dX12_openUp_21 rfl ?_
  have b_6 : (-1) ≤ (G.1 66 24).toInt ∧ (G.1 66 24).toInt ≤ 200 := hB_G.i 66 24 rfl rfl
  refine S_getI (v := (G.1 66 24)) (C := RX12) (T := TX12) (N := 89) hx hb hg iX12 hown hK hW kd_66 rfl 24 (by decide) (hg (Cond.fieldLink RX12 309 "SlabWalkModel" "deep" "I") m1338) (fun _ h9 => h9) rfl ((gp_ne eG_4 (by decide)).trans (gp_ne eG_2 (fun q => absurd q.1 (by decide)))) dX12_openUp_22 ?_
  refine lv_iconst (v := 1) hx hb dX12_openUp_25 (by decide) ?_
  refine lv_iadd hx hb dX12_openUp_26 ?_
  refine lv_topi (fun y_7 ey_7 => ?_)
  have ty_7 : y_7.toInt = (G.1 66 24).toInt + 1 := xI_add rfl rfl ey_7 (by omega) (by omega)
  refine S_putI (ty := .int) (C := RX12) (T := TX12) (N := 89) hx hb hg iX12 tyX12 tyX12_ok nmX12 hown hK hW hS kd_66 rfl 24 (by decide) (hg (Cond.fieldLink RX12 309 "SlabWalkModel" "deep" "I") m1338) (fun _ h9 => h9) rfl (by decide +kernel) rfl rfl rfl dX12_openUp_27 (fun G_8 H locs eG_8 hW hS => ?_)
  have hB_G_8 : Bd G_8 := hB_G_4.put (V := y_7.toInt) (lo := (-1)) (hi := 200) eG_8 rfl rfl rfl (by omega) (by omega) (hB_G_4.2.put eG_8 rfl)
  have hF := hF.put eG_8 (Or.inr (by decide))
  refine lv_aload_n hx hb dX12_openUp_30 rfl (lv_at hl 0 rfl) ?_
  have b_9 : 0 ≤ (G.1 66 2).toInt ∧ (G.1 66 2).toInt ≤ 4 := hB_G.i 66 2 rfl rfl
  refine S_getI (v := (G.1 66 2)) (C := RX12) (T := TX12) (N := 89) hx hb hg iX12 hown hK hW kd_66 rfl 2 (by decide) (hg (Cond.fieldLink RX12 218 "SlabWalkModel" "fault" "I") m1316) (fun _ h9 => h9) rfl ((gp_ne eG_8 (by decide)).trans ((gp_ne eG_4 (by decide)).trans (gp_ne eG_2 (fun q => absurd q.1 (by decide))))) dX12_openUp_31 ?_
  refine lv_if_ne (tgt := 41) hx hb dX12_openUp_34 (by decide) (fun c_10 => ?_) (fun c_10 => ?_)
  · have c_10 : (G.1 66 2).toInt ≠ 0 := xI_ne rfl rfl c_10
    have g_11 : gB G_8 = gB G_4 := gB_fr (rs := []) (fs := [(66, 24)]) (Fr.rf.put eG_8 (Or.inr (by decide))) (by decide) (by decide)
    have g_12 : (G_8.1 66 20).toInt = y_3.toInt := by rw [show G_8.1 66 20 = y_3 from ((gp_ne eG_8 (by decide)).trans (gp_eq eG_4))]
    have g_13 : (G_8.1 66 24).toInt = y_7.toInt := by rw [show G_8.1 66 24 = y_7 from (gp_eq eG_8)]
    have b_14 : 0 ≤ (G.1 66 4).toInt ∧ (G.1 66 4).toInt ≤ 1600 := hB_G.i 66 4 rfl rfl
    have g_15 : (G_8.1 66 4).toInt = (G.1 66 4).toInt := by rw [show G_8.1 66 4 = (G.1 66 4) from ((gp_ne eG_8 (by decide)).trans ((gp_ne eG_4 (by decide)).trans (gp_ne eG_2 (fun q => absurd q.1 (by decide)))))]
    have g_16 : (G_8.1 66 6).toInt = (G.1 66 6).toInt := by rw [show G_8.1 66 6 = (G.1 66 6) from ((gp_ne eG_8 (by decide)).trans ((gp_ne eG_4 (by decide)).trans (gp_ne eG_2 (fun q => absurd q.1 (by decide)))))]
    exact W.vret hx hb hr (fun t ht _ => ⟨⟨G_8, rfl, (Q_openUp_mk ⟨hB_G_8, hF, (by omega), ⟨y_3, ty_3, ⟨y_7, ty_7, (Or.inr ⟨c_10, ⟨(((Fr.rf.put eG_2 (Or.inl (by decide))).put eG_4 (Or.inr (by decide))).put eG_8 (Or.inr (by decide))), ((gp_ne eG_8 (by decide)).trans (gp_eq eG_4)), (gp_eq eG_8), (rw_put eG_8 (by decide)).trans ((rw_put eG_4 (by decide)).trans (rw_ast eG_2))⟩⟩)⟩⟩⟩), wd_t ht hW⟩, hS.F ht⟩) hS.2.2 dX12_openUp_41
  · have c_10 : (G.1 66 2).toInt = 0 := xI_eq rfl rfl c_10
    refine lv_aload_n hx hb dX12_openUp_37 rfl (lv_at hl 0 rfl) ?_
    have b_17 : 0 ≤ (G.1 66 4).toInt ∧ (G.1 66 4).toInt ≤ 1600 := hB_G.i 66 4 rfl rfl
    have g_18 : (G_8.1 66 4).toInt = (G.1 66 4).toInt := by rw [show G_8.1 66 4 = (G.1 66 4) from ((gp_ne eG_8 (by decide)).trans ((gp_ne eG_4 (by decide)).trans (gp_ne eG_2 (fun q => absurd q.1 (by decide)))))]
    have g_19 : (G_8.1 66 6).toInt = (G.1 66 6).toInt := by rw [show G_8.1 66 6 = (G.1 66 6) from ((gp_ne eG_8 (by decide)).trans ((gp_ne eG_4 (by decide)).trans (gp_ne eG_2 (fun q => absurd q.1 (by decide)))))]
    refine S_callv (va_runV (As := []) (rest := []) ⟨hx, hb, hml, hown, hts⟩ (n_token l D k A a z G_8  ) (cwV 0 hts (gd_V hgd m1602 m1604 m50 m131 m1605) rfl rfl rfl (by decide +kernel) ⟨Nat.le_of_ble_eq_true rfl, Nat.le_of_ble_eq_true rfl⟩) (pre_V hW hB_G_8 hK hZ hS kd_66 rfl) rfl rfl hl.1 rfl (lv_room (Nat.le_of_ble_eq_true rfl)) dX12_openUp_38 ⟨Nat.le_of_ble_eq_true rfl, Nat.le_of_ble_eq_true rfl⟩) hS (fun G_21 H locs hpo hW hS => ?_)
    have hX_24 : Q_token G_8 G_21 := hpo
    obtain ⟨hB_G_21, hq_22, hp_23, -⟩ := hpo
    have hF := hF.call hq_22 (by decide) (by decide)
    have g_25 : gB G_21 = gB G_4 := gB_fr (rs := []) (fs := [(66, 4), (66, 6), (66, 7), (66, 8), (66, 9), (66, 24)]) ((Fr.rf.put eG_8 (Or.inr (by decide))).call hq_22 (by decide) (by decide)) (by decide) (by decide)
    have g_26 : (G_21.1 66 20).toInt = y_3.toInt := by rw [show G_21.1 66 20 = y_3 from ((hq_22.i 66 20 (by decide) (by decide)).trans ((gp_ne eG_8 (by decide)).trans (gp_eq eG_4)))]
    have g_27 : (G_21.1 66 24).toInt = y_7.toInt := by rw [show G_21.1 66 24 = y_7 from ((hq_22.i 66 24 (by decide) (by decide)).trans (gp_eq eG_8))]
    have b_28 : 0 ≤ (G_21.1 66 4).toInt ∧ (G_21.1 66 4).toInt ≤ 1600 := hB_G_21.i 66 4 rfl rfl
    exact W.vret hx hb hr (fun t ht _ => ⟨⟨G_21, rfl, (Q_openUp_mk ⟨hB_G_21, hF, (by omega), ⟨y_3, ty_3, ⟨y_7, ty_7, (Or.inl ⟨c_10, ⟨G_8, hB_G_8, (((Fr.rf.put eG_2 (Or.inl (by decide))).put eG_4 (Or.inr (by decide))).put eG_8 (Or.inr (by decide))), ((gp_ne eG_8 (by decide)).trans (gp_eq eG_4)), (gp_eq eG_8), (rw_put eG_8 (by decide)).trans ((rw_put eG_4 (by decide)).trans (rw_ast eG_2)), ⟨G_21, hX_24, rfl⟩⟩⟩)⟩⟩⟩), wd_t ht hW⟩, hS.F ht⟩) hS.2.2 dX12_openUp_41

set_option maxHeartbeats 4000000 in
set_option maxRecDepth 100000 in
theorem n_signOf (l : Launch) (D : va_G) (k : KT) (A : Nat → Prop) (a : Nat → Nat) (z : SK) (G : GS)   : Met l yX12_sign (WS yX12_sign cX12_sign 1 (some .int)) ({ frames := 1, cells := 0, slots := 0, locals := 22 }) (va_Pc [.ref (a 66)] (cW D k A a z G)) (va_Qi (fun (r : Int32) (G1 : GS) => Q_signOf G r G1) (fun (G1 : GS) t => Wd D k A a G1 t.heap) A) 0 0 A := by
  refine Met.ofW (cc := cX12_sign) (maxL := 1) (ret := (some .int)) (by decide) rfl ?_
  intro p e s m args below meth c s₁ B hml hv
  obtain ⟨rfl, hW, hB_G, hK, hZ⟩ := hv
  have hx := B.exec
  have hb := B.bytes
  have hr := B.returns
  have hts := atoms_spec (ws := WS yX12_sign cX12_sign 1 (some .int)) B.pre
  have hgd : ∀ w ∈ gd, w ∈ WS yX12_sign cX12_sign 1 (some .int) := fun w h => List.mem_cons_of_mem _ h
  have hg : ∀ w ∈ gd, w.before _ s = true := fun w h => hts w (hgd w h)
  have hown : s.vm.findClass RX12 = some m.cls := findClass_of_methodNamed B.named
  have hS : va_S A s.heap s.heap [] := va_S.rf
  have hF : Fr [] [] G G := Fr.rf
  have hl := lv_entry ([.ref (a 66)]) (n := 1) (Nat.le_of_ble_eq_true rfl)
  rw [lg_entry_eq]
  generalize (lg_sl ([.ref (a 66)]) ++ List.replicate (1 - (lg_sl ([.ref (a 66)])).length) Slot.unset).toArray = ls at hl ⊢
  have hl : lv_has ls 1 [(0, .ref (a 66))] := hl
  refine lv_aload_n hx hb dX12_sign_0 rfl (lv_at hl 0 rfl) ?_
  refine lv_ldc2 (v := 6385252) hx hb hown (hg (Cond.constantLong RX12 257 6385252) m1667) dX12_sign_1 ?_
  refine S_calli (va_runV (As := [.long 6385252]) (rest := []) ⟨hx, hb, hml, hown, hts⟩ (n_isWord l D k A a z G 6385252 ) (cwV 1 hts (gd_V hgd m1624 m1626 m53 m131 m1627) rfl rfl rfl (by decide +kernel) ⟨Nat.le_of_ble_eq_true rfl, Nat.le_of_ble_eq_true rfl⟩) (pre_V hW hB_G hK hZ hS kd_66 rfl) rfl rfl hl.1 rfl (lv_room (Nat.le_of_ble_eq_true rfl)) dX12_sign_4 ⟨Nat.le_of_ble_eq_true rfl, Nat.le_of_ble_eq_true rfl⟩) hS (fun r_1 G_2 H locs hpo hW hS => ?_)
  have hX_5 : Q_isWord 6385252 G r_1 G_2 := hpo
  obtain ⟨hB_G_2, hq_3, f_6, hp_4, -⟩ := hpo
  have hF := hF.call hq_3 (by decide) (by decide)
  refine lv_if_eq (tgt := 13) hx hb dX12_sign_7 (by decide) (fun c_7 => ?_) (fun c_7 => ?_)
  · have c_7 : r_1.toInt = 0 := xI_eq rfl rfl c_7
    refine lv_aload_n hx hb dX12_sign_13 rfl (lv_at hl 0 rfl) ?_
    refine lv_ldc2 (v := 28530) hx hb hown (hg (Cond.constantLong RX12 259 28530) m1668) dX12_sign_14 ?_
    have g_8 : (G_2.1 66 6).toInt = (G.1 66 6).toInt := by rw [show G_2.1 66 6 = (G.1 66 6) from (hq_3.i 66 6 (by decide) (by decide))]
    refine S_calli (va_runV (As := [.long 28530]) (rest := []) ⟨hx, hb, hml, hown, hts⟩ (n_isWord l D k A a z G_2 28530 ) (cwV 1 hts (gd_V hgd m1624 m1626 m53 m131 m1627) rfl rfl rfl (by decide +kernel) ⟨Nat.le_of_ble_eq_true rfl, Nat.le_of_ble_eq_true rfl⟩) (pre_V hW hB_G_2 hK hZ hS kd_66 rfl) rfl rfl hl.1 rfl (lv_room (Nat.le_of_ble_eq_true rfl)) dX12_sign_17 ⟨Nat.le_of_ble_eq_true rfl, Nat.le_of_ble_eq_true rfl⟩) hS (fun r_9 G_10 H locs hpo hW hS => ?_)
    have hX_13 : Q_isWord 28530 G_2 r_9 G_10 := hpo
    obtain ⟨hB_G_10, hq_11, f_14, hp_12, -⟩ := hpo
    have hF := hF.call hq_11 (by decide) (by decide)
    refine lv_if_eq (tgt := 26) hx hb dX12_sign_20 (by decide) (fun c_15 => ?_) (fun c_15 => ?_)
    · have c_15 : r_9.toInt = 0 := xI_eq rfl rfl c_15
      refine lv_aload_n hx hb dX12_sign_26 rfl (lv_at hl 0 rfl) ?_
      refine S_getI (v := (G.1 66 6)) (C := RX12) (T := TX12) (N := 89) hx hb hg iX12 hown hK hW kd_66 rfl 6 (by decide) (hg (Cond.fieldLink RX12 205 "SlabWalkModel" "sort" "I") m1320) (fun _ h9 => h9) rfl ((hq_11.i 66 6 (by decide) (by decide)).trans ((hq_3.i 66 6 (by decide) (by decide)).trans (rfl))) dX12_sign_27 ?_
      refine lv_bipush (v := 60) hx hb dX12_sign_30 (by decide) ?_
      refine lv_icmp_eq (tgt := 98) hx hb dX12_sign_32 (by decide) (fun c_16 => ?_) (fun c_16 => ?_)
      · have c_16 : (G.1 66 6).toInt = 60 := xI_eq rfl rfl c_16
        refine lv_aload_n hx hb dX12_sign_98 rfl (lv_at hl 0 rfl) ?_
        refine S_getI (v := (G.1 66 6)) (C := RX12) (T := TX12) (N := 89) hx hb hg iX12 hown hK hW kd_66 rfl 6 (by decide) (hg (Cond.fieldLink RX12 205 "SlabWalkModel" "sort" "I") m1320) (fun _ h9 => h9) rfl ((hq_11.i 66 6 (by decide) (by decide)).trans ((hq_3.i 66 6 (by decide) (by decide)).trans (rfl))) dX12_sign_99 ?_
        refine lv_goto (tgt := 106) hx hb dX12_sign_102 (by decide) ?_
        exact W.iret (v := (G.1 66 6)) hx hb hr (fun t ht _ => ⟨⟨(G.1 66 6), G_10, rfl, (Q_signOf_mk ⟨hB_G_10, hF, ⟨by omega, by omega⟩, (by omega), ⟨r_1, G_2, hX_5, (Or.inl ⟨c_7, ⟨r_9, G_10, hX_13, (Or.inl ⟨c_15, (Or.inl ⟨c_16, ⟨rfl, rfl⟩⟩)⟩)⟩⟩)⟩⟩), wd_t ht hW⟩, hS.F ht⟩) hS.2.2 dX12_sign_106
      · have c_16 : (G.1 66 6).toInt ≠ 60 := xI_ne rfl rfl c_16
        refine lv_aload_n hx hb dX12_sign_35 rfl (lv_at hl 0 rfl) ?_
        refine S_getI (v := (G.1 66 6)) (C := RX12) (T := TX12) (N := 89) hx hb hg iX12 hown hK hW kd_66 rfl 6 (by decide) (hg (Cond.fieldLink RX12 205 "SlabWalkModel" "sort" "I") m1320) (fun _ h9 => h9) rfl ((hq_11.i 66 6 (by decide) (by decide)).trans ((hq_3.i 66 6 (by decide) (by decide)).trans (rfl))) dX12_sign_36 ?_
        refine lv_bipush (v := 62) hx hb dX12_sign_39 (by decide) ?_
        refine lv_icmp_eq (tgt := 98) hx hb dX12_sign_41 (by decide) (fun c_17 => ?_) (fun c_17 => ?_)
        · have c_17 : (G.1 66 6).toInt = 62 := xI_eq rfl rfl c_17
          refine lv_aload_n hx hb dX12_sign_98 rfl (lv_at hl 0 rfl) ?_
          refine S_getI (v := (G.1 66 6)) (C := RX12) (T := TX12) (N := 89) hx hb hg iX12 hown hK hW kd_66 rfl 6 (by decide) (hg (Cond.fieldLink RX12 205 "SlabWalkModel" "sort" "I") m1320) (fun _ h9 => h9) rfl ((hq_11.i 66 6 (by decide) (by decide)).trans ((hq_3.i 66 6 (by decide) (by decide)).trans (rfl))) dX12_sign_99 ?_
          refine lv_goto (tgt := 106) hx hb dX12_sign_102 (by decide) ?_
          exact W.iret (v := (G.1 66 6)) hx hb hr (fun t ht _ => ⟨⟨(G.1 66 6), G_10, rfl, (Q_signOf_mk ⟨hB_G_10, hF, ⟨by omega, by omega⟩, (by omega), ⟨r_1, G_2, hX_5, (Or.inl ⟨c_7, ⟨r_9, G_10, hX_13, (Or.inl ⟨c_15, (Or.inr ⟨c_16, (Or.inl ⟨c_17, ⟨rfl, rfl⟩⟩)⟩)⟩)⟩⟩)⟩⟩), wd_t ht hW⟩, hS.F ht⟩) hS.2.2 dX12_sign_106
        · have c_17 : (G.1 66 6).toInt ≠ 62 := xI_ne rfl rfl c_17
          refine lv_aload_n hx hb dX12_sign_44 rfl (lv_at hl 0 rfl) ?_
          refine S_getI (v := (G.1 66 6)) (C := RX12) (T := TX12) (N := 89) hx hb hg iX12 hown hK hW kd_66 rfl 6 (by decide) (hg (Cond.fieldLink RX12 205 "SlabWalkModel" "sort" "I") m1320) (fun _ h9 => h9) rfl ((hq_11.i 66 6 (by decide) (by decide)).trans ((hq_3.i 66 6 (by decide) (by decide)).trans (rfl))) dX12_sign_45 ?_
          refine lv_bipush (v := 61) hx hb dX12_sign_48 (by decide) ?_
          refine lv_icmp_eq (tgt := 98) hx hb dX12_sign_50 (by decide) (fun c_18 => ?_) (fun c_18 => ?_)
          · have c_18 : (G.1 66 6).toInt = 61 := xI_eq rfl rfl c_18
            refine lv_aload_n hx hb dX12_sign_98 rfl (lv_at hl 0 rfl) ?_
            refine S_getI (v := (G.1 66 6)) (C := RX12) (T := TX12) (N := 89) hx hb hg iX12 hown hK hW kd_66 rfl 6 (by decide) (hg (Cond.fieldLink RX12 205 "SlabWalkModel" "sort" "I") m1320) (fun _ h9 => h9) rfl ((hq_11.i 66 6 (by decide) (by decide)).trans ((hq_3.i 66 6 (by decide) (by decide)).trans (rfl))) dX12_sign_99 ?_
            refine lv_goto (tgt := 106) hx hb dX12_sign_102 (by decide) ?_
            exact W.iret (v := (G.1 66 6)) hx hb hr (fun t ht _ => ⟨⟨(G.1 66 6), G_10, rfl, (Q_signOf_mk ⟨hB_G_10, hF, ⟨by omega, by omega⟩, (by omega), ⟨r_1, G_2, hX_5, (Or.inl ⟨c_7, ⟨r_9, G_10, hX_13, (Or.inl ⟨c_15, (Or.inr ⟨c_16, (Or.inr ⟨c_17, (Or.inl ⟨c_18, ⟨rfl, rfl⟩⟩)⟩)⟩)⟩)⟩⟩)⟩⟩), wd_t ht hW⟩, hS.F ht⟩) hS.2.2 dX12_sign_106
          · have c_18 : (G.1 66 6).toInt ≠ 61 := xI_ne rfl rfl c_18
            refine lv_aload_n hx hb dX12_sign_53 rfl (lv_at hl 0 rfl) ?_
            refine S_getI (v := (G.1 66 6)) (C := RX12) (T := TX12) (N := 89) hx hb hg iX12 hown hK hW kd_66 rfl 6 (by decide) (hg (Cond.fieldLink RX12 205 "SlabWalkModel" "sort" "I") m1320) (fun _ h9 => h9) rfl ((hq_11.i 66 6 (by decide) (by decide)).trans ((hq_3.i 66 6 (by decide) (by decide)).trans (rfl))) dX12_sign_54 ?_
            refine lv_bipush (v := 43) hx hb dX12_sign_57 (by decide) ?_
            refine lv_icmp_eq (tgt := 98) hx hb dX12_sign_59 (by decide) (fun c_19 => ?_) (fun c_19 => ?_)
            · have c_19 : (G.1 66 6).toInt = 43 := xI_eq rfl rfl c_19
              refine lv_aload_n hx hb dX12_sign_98 rfl (lv_at hl 0 rfl) ?_
              refine S_getI (v := (G.1 66 6)) (C := RX12) (T := TX12) (N := 89) hx hb hg iX12 hown hK hW kd_66 rfl 6 (by decide) (hg (Cond.fieldLink RX12 205 "SlabWalkModel" "sort" "I") m1320) (fun _ h9 => h9) rfl ((hq_11.i 66 6 (by decide) (by decide)).trans ((hq_3.i 66 6 (by decide) (by decide)).trans (rfl))) dX12_sign_99 ?_
              refine lv_goto (tgt := 106) hx hb dX12_sign_102 (by decide) ?_
              exact W.iret (v := (G.1 66 6)) hx hb hr (fun t ht _ => ⟨⟨(G.1 66 6), G_10, rfl, (Q_signOf_mk ⟨hB_G_10, hF, ⟨by omega, by omega⟩, (by omega), ⟨r_1, G_2, hX_5, (Or.inl ⟨c_7, ⟨r_9, G_10, hX_13, (Or.inl ⟨c_15, (Or.inr ⟨c_16, (Or.inr ⟨c_17, (Or.inr ⟨c_18, (Or.inl ⟨c_19, ⟨rfl, rfl⟩⟩)⟩)⟩)⟩)⟩)⟩⟩)⟩⟩), wd_t ht hW⟩, hS.F ht⟩) hS.2.2 dX12_sign_106
            · have c_19 : (G.1 66 6).toInt ≠ 43 := xI_ne rfl rfl c_19
              refine lv_aload_n hx hb dX12_sign_62 rfl (lv_at hl 0 rfl) ?_
              refine S_getI (v := (G.1 66 6)) (C := RX12) (T := TX12) (N := 89) hx hb hg iX12 hown hK hW kd_66 rfl 6 (by decide) (hg (Cond.fieldLink RX12 205 "SlabWalkModel" "sort" "I") m1320) (fun _ h9 => h9) rfl ((hq_11.i 66 6 (by decide) (by decide)).trans ((hq_3.i 66 6 (by decide) (by decide)).trans (rfl))) dX12_sign_63 ?_
              refine lv_bipush (v := 45) hx hb dX12_sign_66 (by decide) ?_
              refine lv_icmp_eq (tgt := 98) hx hb dX12_sign_68 (by decide) (fun c_20 => ?_) (fun c_20 => ?_)
              · have c_20 : (G.1 66 6).toInt = 45 := xI_eq rfl rfl c_20
                refine lv_aload_n hx hb dX12_sign_98 rfl (lv_at hl 0 rfl) ?_
                refine S_getI (v := (G.1 66 6)) (C := RX12) (T := TX12) (N := 89) hx hb hg iX12 hown hK hW kd_66 rfl 6 (by decide) (hg (Cond.fieldLink RX12 205 "SlabWalkModel" "sort" "I") m1320) (fun _ h9 => h9) rfl ((hq_11.i 66 6 (by decide) (by decide)).trans ((hq_3.i 66 6 (by decide) (by decide)).trans (rfl))) dX12_sign_99 ?_
                refine lv_goto (tgt := 106) hx hb dX12_sign_102 (by decide) ?_
                exact W.iret (v := (G.1 66 6)) hx hb hr (fun t ht _ => ⟨⟨(G.1 66 6), G_10, rfl, (Q_signOf_mk ⟨hB_G_10, hF, ⟨by omega, by omega⟩, (by omega), ⟨r_1, G_2, hX_5, (Or.inl ⟨c_7, ⟨r_9, G_10, hX_13, (Or.inl ⟨c_15, (Or.inr ⟨c_16, (Or.inr ⟨c_17, (Or.inr ⟨c_18, (Or.inr ⟨c_19, (Or.inl ⟨c_20, ⟨rfl, rfl⟩⟩)⟩)⟩)⟩)⟩)⟩)⟩⟩)⟩⟩), wd_t ht hW⟩, hS.F ht⟩) hS.2.2 dX12_sign_106
              · have c_20 : (G.1 66 6).toInt ≠ 45 := xI_ne rfl rfl c_20
                refine lv_aload_n hx hb dX12_sign_71 rfl (lv_at hl 0 rfl) ?_
                refine S_getI (v := (G.1 66 6)) (C := RX12) (T := TX12) (N := 89) hx hb hg iX12 hown hK hW kd_66 rfl 6 (by decide) (hg (Cond.fieldLink RX12 205 "SlabWalkModel" "sort" "I") m1320) (fun _ h9 => h9) rfl ((hq_11.i 66 6 (by decide) (by decide)).trans ((hq_3.i 66 6 (by decide) (by decide)).trans (rfl))) dX12_sign_72 ?_
                refine lv_bipush (v := 42) hx hb dX12_sign_75 (by decide) ?_
                refine lv_icmp_eq (tgt := 98) hx hb dX12_sign_77 (by decide) (fun c_21 => ?_) (fun c_21 => ?_)
                · have c_21 : (G.1 66 6).toInt = 42 := xI_eq rfl rfl c_21
                  refine lv_aload_n hx hb dX12_sign_98 rfl (lv_at hl 0 rfl) ?_
                  refine S_getI (v := (G.1 66 6)) (C := RX12) (T := TX12) (N := 89) hx hb hg iX12 hown hK hW kd_66 rfl 6 (by decide) (hg (Cond.fieldLink RX12 205 "SlabWalkModel" "sort" "I") m1320) (fun _ h9 => h9) rfl ((hq_11.i 66 6 (by decide) (by decide)).trans ((hq_3.i 66 6 (by decide) (by decide)).trans (rfl))) dX12_sign_99 ?_
                  refine lv_goto (tgt := 106) hx hb dX12_sign_102 (by decide) ?_
                  exact W.iret (v := (G.1 66 6)) hx hb hr (fun t ht _ => ⟨⟨(G.1 66 6), G_10, rfl, (Q_signOf_mk ⟨hB_G_10, hF, ⟨by omega, by omega⟩, (by omega), ⟨r_1, G_2, hX_5, (Or.inl ⟨c_7, ⟨r_9, G_10, hX_13, (Or.inl ⟨c_15, (Or.inr ⟨c_16, (Or.inr ⟨c_17, (Or.inr ⟨c_18, (Or.inr ⟨c_19, (Or.inr ⟨c_20, (Or.inl ⟨c_21, ⟨rfl, rfl⟩⟩)⟩)⟩)⟩)⟩)⟩)⟩)⟩⟩)⟩⟩), wd_t ht hW⟩, hS.F ht⟩) hS.2.2 dX12_sign_106
                · have c_21 : (G.1 66 6).toInt ≠ 42 := xI_ne rfl rfl c_21
                  refine lv_aload_n hx hb dX12_sign_80 rfl (lv_at hl 0 rfl) ?_
                  refine S_getI (v := (G.1 66 6)) (C := RX12) (T := TX12) (N := 89) hx hb hg iX12 hown hK hW kd_66 rfl 6 (by decide) (hg (Cond.fieldLink RX12 205 "SlabWalkModel" "sort" "I") m1320) (fun _ h9 => h9) rfl ((hq_11.i 66 6 (by decide) (by decide)).trans ((hq_3.i 66 6 (by decide) (by decide)).trans (rfl))) dX12_sign_81 ?_
                  refine lv_bipush (v := 47) hx hb dX12_sign_84 (by decide) ?_
                  refine lv_icmp_eq (tgt := 98) hx hb dX12_sign_86 (by decide) (fun c_22 => ?_) (fun c_22 => ?_)
                  · have c_22 : (G.1 66 6).toInt = 47 := xI_eq rfl rfl c_22
                    refine lv_aload_n hx hb dX12_sign_98 rfl (lv_at hl 0 rfl) ?_
                    refine S_getI (v := (G.1 66 6)) (C := RX12) (T := TX12) (N := 89) hx hb hg iX12 hown hK hW kd_66 rfl 6 (by decide) (hg (Cond.fieldLink RX12 205 "SlabWalkModel" "sort" "I") m1320) (fun _ h9 => h9) rfl ((hq_11.i 66 6 (by decide) (by decide)).trans ((hq_3.i 66 6 (by decide) (by decide)).trans (rfl))) dX12_sign_99 ?_
                    refine lv_goto (tgt := 106) hx hb dX12_sign_102 (by decide) ?_
                    exact W.iret (v := (G.1 66 6)) hx hb hr (fun t ht _ => ⟨⟨(G.1 66 6), G_10, rfl, (Q_signOf_mk ⟨hB_G_10, hF, ⟨by omega, by omega⟩, (by omega), ⟨r_1, G_2, hX_5, (Or.inl ⟨c_7, ⟨r_9, G_10, hX_13, (Or.inl ⟨c_15, (Or.inr ⟨c_16, (Or.inr ⟨c_17, (Or.inr ⟨c_18, (Or.inr ⟨c_19, (Or.inr ⟨c_20, (Or.inr ⟨c_21, (Or.inl ⟨c_22, ⟨rfl, rfl⟩⟩)⟩)⟩)⟩)⟩)⟩)⟩)⟩)⟩⟩)⟩⟩), wd_t ht hW⟩, hS.F ht⟩) hS.2.2 dX12_sign_106
                  · have c_22 : (G.1 66 6).toInt ≠ 47 := xI_ne rfl rfl c_22
                    refine lv_aload_n hx hb dX12_sign_89 rfl (lv_at hl 0 rfl) ?_
                    refine S_getI (v := (G.1 66 6)) (C := RX12) (T := TX12) (N := 89) hx hb hg iX12 hown hK hW kd_66 rfl 6 (by decide) (hg (Cond.fieldLink RX12 205 "SlabWalkModel" "sort" "I") m1320) (fun _ h9 => h9) rfl ((hq_11.i 66 6 (by decide) (by decide)).trans ((hq_3.i 66 6 (by decide) (by decide)).trans (rfl))) dX12_sign_90 ?_
                    refine lv_bipush (v := 37) hx hb dX12_sign_93 (by decide) ?_
                    refine lv_icmp_ne (tgt := 105) hx hb dX12_sign_95 (by decide) (fun c_23 => ?_) (fun c_23 => ?_)
                    · have c_23 : (G.1 66 6).toInt ≠ 37 := xI_ne rfl rfl c_23
                      refine lv_iconst (v := 0) hx hb dX12_sign_105 (by decide) ?_
                      exact W.iret (v := 0) hx hb hr (fun t ht _ => ⟨⟨0, G_10, rfl, (Q_signOf_mk ⟨hB_G_10, hF, ⟨by decide, by decide⟩, (by have hq : (0 : Int32).toInt = 0 := rfl; (try dsimp only); omega), ⟨r_1, G_2, hX_5, (Or.inl ⟨c_7, ⟨r_9, G_10, hX_13, (Or.inl ⟨c_15, (Or.inr ⟨c_16, (Or.inr ⟨c_17, (Or.inr ⟨c_18, (Or.inr ⟨c_19, (Or.inr ⟨c_20, (Or.inr ⟨c_21, (Or.inr ⟨c_22, (Or.inr ⟨c_23, ⟨rfl, rfl⟩⟩)⟩)⟩)⟩)⟩)⟩)⟩)⟩)⟩)⟩⟩)⟩⟩), wd_t ht hW⟩, hS.F ht⟩) hS.2.2 dX12_sign_106
                    · have c_23 : (G.1 66 6).toInt = 37 := xI_eq rfl rfl c_23
                      refine lv_aload_n hx hb dX12_sign_98 rfl (lv_at hl 0 rfl) ?_
                      refine S_getI (v := (G.1 66 6)) (C := RX12) (T := TX12) (N := 89) hx hb hg iX12 hown hK hW kd_66 rfl 6 (by decide) (hg (Cond.fieldLink RX12 205 "SlabWalkModel" "sort" "I") m1320) (fun _ h9 => h9) rfl ((hq_11.i 66 6 (by decide) (by decide)).trans ((hq_3.i 66 6 (by decide) (by decide)).trans (rfl))) dX12_sign_99 ?_
                      refine lv_goto (tgt := 106) hx hb dX12_sign_102 (by decide) ?_
                      exact W.iret (v := (G.1 66 6)) hx hb hr (fun t ht _ => ⟨⟨(G.1 66 6), G_10, rfl, (Q_signOf_mk ⟨hB_G_10, hF, ⟨by omega, by omega⟩, (by omega), ⟨r_1, G_2, hX_5, (Or.inl ⟨c_7, ⟨r_9, G_10, hX_13, (Or.inl ⟨c_15, (Or.inr ⟨c_16, (Or.inr ⟨c_17, (Or.inr ⟨c_18, (Or.inr ⟨c_19, (Or.inr ⟨c_20, (Or.inr ⟨c_21, (Or.inr ⟨c_22, (Or.inl ⟨c_23, ⟨rfl, rfl⟩⟩)⟩)⟩)⟩)⟩)⟩)⟩)⟩)⟩)⟩⟩)⟩⟩), wd_t ht hW⟩, hS.F ht⟩) hS.2.2 dX12_sign_106
    · have c_15 : r_9.toInt ≠ 0 := xI_ne rfl rfl c_15
      refine lv_bipush (v := 124) hx hb dX12_sign_23 (by decide) ?_
      exact W.iret (v := 124) hx hb hr (fun t ht _ => ⟨⟨124, G_10, rfl, (Q_signOf_mk ⟨hB_G_10, hF, ⟨by decide, by decide⟩, (by have hq : (124 : Int32).toInt = 124 := rfl; (try dsimp only); omega), ⟨r_1, G_2, hX_5, (Or.inl ⟨c_7, ⟨r_9, G_10, hX_13, (Or.inr ⟨c_15, ⟨rfl, rfl⟩⟩)⟩⟩)⟩⟩), wd_t ht hW⟩, hS.F ht⟩) hS.2.2 dX12_sign_25
  · have c_7 : r_1.toInt ≠ 0 := xI_ne rfl rfl c_7
    refine lv_bipush (v := 38) hx hb dX12_sign_10 (by decide) ?_
    exact W.iret (v := 38) hx hb hr (fun t ht _ => ⟨⟨38, G_2, rfl, (Q_signOf_mk ⟨hB_G_2, hF, ⟨by decide, by decide⟩, (by have hq : (38 : Int32).toInt = 38 := rfl; (try dsimp only); omega), ⟨r_1, G_2, hX_5, (Or.inr ⟨c_7, ⟨rfl, rfl⟩⟩)⟩⟩), wd_t ht hW⟩, hS.F ht⟩) hS.2.2 dX12_sign_12

set_option maxHeartbeats 4000000 in
set_option maxRecDepth 100000 in
theorem n_unit (l : Launch) (D : va_G) (k : KT) (A : Nat → Prop) (a : Nat → Nat) (z : SK) (G : GS)  (hnf : (G.1 66 2).toInt = 0) (hun : gC G = 1 ∧ gD G = gB G ∧ (G.1 66 24).toInt = (G.1 66 20).toInt - gB G ∧ gD G ≤ (G.1 66 23).toInt ∧ (G.1 66 23).toInt ≤ 30 ∧ (G.1 66 24).toInt ≤ 7 ∧ gM G + (G.1 66 20).toInt ≤ 10 * (G.1 66 23).toInt + 1) : Met l yX12_unit (WS yX12_unit cX12_unit 3 none) ({ frames := 3, cells := 0, slots := 0, locals := 64 }) (va_Pc [.ref (a 66)] (cW D k A a z G)) (va_Qv (fun (G1 : GS) => Q_unit G G1) (fun (G1 : GS) t => Wd D k A a G1 t.heap) A) 0 0 A := by
  refine Met.ofW (cc := cX12_unit) (maxL := 3) (ret := none) (by decide) rfl ?_
  intro p e s m args below meth c s₁ B hml hv
  obtain ⟨rfl, hW, hB_G, hK, hZ⟩ := hv
  have hx := B.exec
  have hb := B.bytes
  have hr := B.returns
  have hts := atoms_spec (ws := WS yX12_unit cX12_unit 3 none) B.pre
  have hgd : ∀ w ∈ gd, w ∈ WS yX12_unit cX12_unit 3 none := fun w h => List.mem_cons_of_mem _ h
  have hg : ∀ w ∈ gd, w.before _ s = true := fun w h => hts w (hgd w h)
  have hown : s.vm.findClass RX12 = some m.cls := findClass_of_methodNamed B.named
  have hS : va_S A s.heap s.heap [] := va_S.rf
  have hF : Fr [69, 70, 71, 75] [(66, 2), (66, 3), (66, 4), (66, 6), (66, 7), (66, 8), (66, 9), (66, 20), (66, 21), (66, 23), (66, 24)] G G := Fr.rf
  have hl := lv_entry ([.ref (a 66)]) (n := 3) (Nat.le_of_ble_eq_true rfl)
  rw [lg_entry_eq]
  generalize (lg_sl ([.ref (a 66)]) ++ List.replicate (3 - (lg_sl ([.ref (a 66)])).length) Slot.unset).toArray = ls at hl ⊢
  have hl : lv_has ls 3 [(0, .ref (a 66))] := hl
  have b_1 : 0 ≤ (G.1 66 20).toInt ∧ (G.1 66 20).toInt ≤ 160 := hB_G.i 66 20 rfl rfl
  have u_2 := gh_pos (G := G) (by omega)
  refine lv_iconst (v := 1) hx hb dX12_unit_0 (by decide) ?_
  refine lv_istore_n (lv' := [(1, .int 1), (0, .ref (a 66))]) hx hb dX12_unit_1 rfl hl (by decide) rfl (fun ls hl => ?_)
  have b_9 : (-1) ≤ (G.1 66 24).toInt ∧ (G.1 66 24).toInt ≤ 200 := hB_G.i 66 24 rfl rfl
  have b_10 : 0 ≤ (G.1 66 2).toInt ∧ (G.1 66 2).toInt ≤ 4 := hB_G.i 66 2 rfl rfl
  have b_11 : 0 ≤ (G.1 66 23).toInt ∧ (G.1 66 23).toInt ≤ 40 := hB_G.i 66 23 rfl rfl
  have b_12 : 0 ≤ (G.1 66 4).toInt ∧ (G.1 66 4).toInt ≤ 1600 := hB_G.i 66 4 rfl rfl
  have qc_13 : (1 : Int32).toInt = 1 := rfl
  refine loop_N (Inv := fun n H locs ls => ∃ (G_3 : GS) (x_7 : Int32), (n : Int) = 9 - (G_3.1 66 24).toInt + x_7.toInt ∧ (0 ≤ x_7.toInt ∧ x_7.toInt ≤ 1) ∧ (gC G_3 = 1 ∧ gD G_3 = gB G_3 ∧ (G_3.1 66 24).toInt = (G_3.1 66 20).toInt - gB G_3 ∧ gD G_3 ≤ (G_3.1 66 23).toInt ∧ (G_3.1 66 23).toInt ≤ 31 ∧ (G_3.1 66 24).toInt ≤ 8 ∧ gM G_3 + (G_3.1 66 20).toInt ≤ 10 * (G_3.1 66 23).toInt + 1 + (G_3.1 66 24).toInt ∧ ((G_3.1 66 2).toInt = 0 → (G_3.1 66 23).toInt ≤ 30 ∧ (G_3.1 66 24).toInt ≤ 7)) ∧ ((G.1 66 23).toInt ≤ (G_3.1 66 23).toInt) ∧ ((G.1 66 4).toInt ≤ (G_3.1 66 4).toInt ∧ ((G_3.1 66 4).toInt = (G.1 66 4).toInt → (G_3.1 66 6).toInt = (G.1 66 6).toInt ∨ (G_3.1 66 6).toInt ≤ 3)) ∧ Rc (St_n_unit_1 G) (1, G) (x_7, G_3) ∧ Wd D k A a G_3 H ∧ Bd G_3 ∧ Fr [69, 70, 71, 75] [(66, 2), (66, 3), (66, 4), (66, 6), (66, 7), (66, 8), (66, 9), (66, 20), (66, 21), (66, 23), (66, 24)] G G_3 ∧ Fr [75] [(66, 2), (66, 3), (66, 4), (66, 6), (66, 7), (66, 8), (66, 9), (66, 20), (66, 21), (66, 23), (66, 24)] G G_3 ∧ va_S A s.heap H locs ∧ lv_has ls 3 [(1, .int x_7), (0, .ref (a 66))]) (fun n_6 H locs ls ih_5 hI => ?_) (9 - (G.1 66 24).toInt + 1 : Int).toNat ⟨G, 1, (Int.toNat_of_nonneg (by omega)), ⟨by omega, by omega⟩, (by omega), (by omega), (by omega), Rc.rf, hW, hB_G, hF, Fr.rf, hS, lv_sub hl [0, 1] rfl⟩
  obtain ⟨G_3, x_7, hn_18, f_14, f_15, f_16, f_17, hX_8, hW, hB_G_3, hF, hq_4, hS, hl⟩ := hI
  have g_19 : gC G_3 = gC G := gC_fr (rs := [75]) (fs := [(66, 2), (66, 3), (66, 4), (66, 6), (66, 7), (66, 8), (66, 9), (66, 20), (66, 21), (66, 23), (66, 24)]) (Fr.rf.call hq_4 (by decide) (by decide)) (by decide) (by decide)
  have g_20 : gD G_3 = gD G := gD_fr (rs := [75]) (fs := [(66, 2), (66, 3), (66, 4), (66, 6), (66, 7), (66, 8), (66, 9), (66, 20), (66, 21), (66, 23), (66, 24)]) (Fr.rf.call hq_4 (by decide) (by decide)) (by decide) (by decide)
  have g_21 : gM G_3 = gM G := gM_fr (rs := [75]) (fs := [(66, 2), (66, 3), (66, 4), (66, 6), (66, 7), (66, 8), (66, 9), (66, 20), (66, 21), (66, 23), (66, 24)]) (Fr.rf.call hq_4 (by decide) (by decide)) (by decide) (by decide)
  have b_22 : 0 ≤ (G_3.1 66 2).toInt ∧ (G_3.1 66 2).toInt ≤ 4 := hB_G_3.i 66 2 rfl rfl
  have b_23 : 0 ≤ (G_3.1 66 20).toInt ∧ (G_3.1 66 20).toInt ≤ 160 := hB_G_3.i 66 20 rfl rfl
  have b_24 : 0 ≤ (G_3.1 66 23).toInt ∧ (G_3.1 66 23).toInt ≤ 40 := hB_G_3.i 66 23 rfl rfl
  have b_25 : (-1) ≤ (G_3.1 66 24).toInt ∧ (G_3.1 66 24).toInt ≤ 200 := hB_G_3.i 66 24 rfl rfl
  have b_26 : 0 ≤ (G_3.1 66 4).toInt ∧ (G_3.1 66 4).toInt ≤ 1600 := hB_G_3.i 66 4 rfl rfl
  have u_27 := gh_pos (G := G_3) (by omega)
  refine lv_iload_n hx hb dX12_unit_2 rfl (lv_at hl 0 rfl) ?_
  refine W.cut (σ := Unit) (pcJ := 101) (J := fun y H locs ls => ∃ (G_29 : GS), Jn_n_unit_2 x_7 G_3 G_29 ∧ Wd D k A a G_29 H ∧ Bd G_29 ∧ Fr [69, 70, 71, 75] [(66, 2), (66, 3), (66, 4), (66, 6), (66, 7), (66, 8), (66, 9), (66, 20), (66, 21), (66, 23), (66, 24)] G G_29 ∧ Fr [] [] G_3 G_29 ∧ va_S A s.heap H locs ∧ lv_has ls 3 [(0, .ref (a 66))]) (stJ := fun _ => []) ?_ (fun hJ_30 => ?_)
  · intro y H locs ls hI
    obtain ⟨G_29, hX_32, hW, hB_G_29, hF, hq_31, hS, hl⟩ := hI
    refine lv_aload_n hx hb dX12_unit_101 rfl (lv_at hl 0 rfl) ?_
    refine S_getI (v := (G_3.1 66 2)) (C := RX12) (T := TX12) (N := 89) hx hb hg iX12 hown hK hW kd_66 rfl 2 (by decide) (hg (Cond.fieldLink RX12 218 "SlabWalkModel" "fault" "I") m1316) (fun _ h9 => h9) rfl ((hq_31.i 66 2 (by decide) (by decide)).trans (rfl)) dX12_unit_102 ?_
    refine lv_if_le (tgt := 109) hx hb dX12_unit_105 (by decide) (fun c_33 => ?_) (fun c_33 => ?_)
    · have c_33 : (G_3.1 66 2).toInt ≤ 0 := xI_le rfl rfl c_33
      refine lv_aload_n hx hb dX12_unit_109 rfl (lv_at hl 0 rfl) ?_
      refine S_calli (va_runV (As := []) (rest := []) ⟨hx, hb, hml, hown, hts⟩ (n_asked l D k A a z G_29  ) (cwV 0 hts (gd_V hgd m1737 m1739 m75 m131 m1740) rfl rfl rfl (by decide +kernel) ⟨Nat.le_of_ble_eq_true rfl, Nat.le_of_ble_eq_true rfl⟩) (pre_V hW hB_G_29 hK hZ hS kd_66 rfl) rfl rfl hl.1 rfl (lv_room (Nat.le_of_ble_eq_true rfl)) dX12_unit_110 ⟨Nat.le_of_ble_eq_true rfl, Nat.le_of_ble_eq_true rfl⟩) hS (fun r_34 G_35 H locs hpo hW hS => ?_)
      have hX_38 : Q_asked G_29 r_34 G_35 := hpo
      obtain ⟨hB_G_35, hq_36, f_39, -⟩ := hpo
      have hF := hF.call hq_36 (by decide) (by decide)
      refine lv_istore_n (lv' := [(2, .int r_34), (0, .ref (a 66))]) hx hb dX12_unit_113 rfl hl (by decide) rfl (fun ls hl => ?_)
      refine lv_aload_n hx hb dX12_unit_114 rfl (lv_at hl 1 rfl) ?_
      refine S_getI (v := (G_3.1 66 6)) (C := RX12) (T := TX12) (N := 89) hx hb hg iX12 hown hK hW kd_66 rfl 6 (by decide) (hg (Cond.fieldLink RX12 205 "SlabWalkModel" "sort" "I") m1320) (fun _ h9 => h9) rfl ((hq_36.i 66 6 (by decide) (by decide)).trans ((hq_31.i 66 6 (by decide) (by decide)).trans (rfl))) dX12_unit_115 ?_
      refine lv_iconst (v := 2) hx hb dX12_unit_118 (by decide) ?_
      refine lv_icmp_eq (tgt := 126) hx hb dX12_unit_119 (by decide) (fun c_40 => ?_) (fun c_40 => ?_)
      · have c_40 : (G_3.1 66 6).toInt = 2 := xI_eq rfl rfl c_40
        refine lv_aload_n hx hb dX12_unit_126 rfl (lv_at hl 1 rfl) ?_
        have g_41 : (G_35.1 66 23).toInt = (G_3.1 66 23).toInt := by rw [show G_35.1 66 23 = (G_3.1 66 23) from ((hq_36.i 66 23 (by decide) (by decide)).trans ((hq_31.i 66 23 (by decide) (by decide)).trans (rfl)))]
        refine S_calli (va_runV (As := []) (rest := []) ⟨hx, hb, hml, hown, hts⟩ (n_isFull l D k A a z G_35  ) (cwV 0 hts (gd_V hgd m1729 m1731 m73 m131 m1732) rfl rfl rfl (by decide +kernel) ⟨Nat.le_of_ble_eq_true rfl, Nat.le_of_ble_eq_true rfl⟩) (pre_V hW hB_G_35 hK hZ hS kd_66 rfl) rfl rfl hl.1 rfl (lv_room (Nat.le_of_ble_eq_true rfl)) dX12_unit_127 ⟨Nat.le_of_ble_eq_true rfl, Nat.le_of_ble_eq_true rfl⟩) hS (fun r_42 G_43 H locs hpo hW hS => ?_)
        have hX_46 : Q_isFull G_35 r_42 G_43 := hpo
        obtain ⟨hB_G_43, hq_44, f_47, hp_45, -⟩ := hpo
        have hF := hF.call hq_44 (by decide) (by decide)
        refine lv_if_eq (tgt := 138) hx hb dX12_unit_130 (by decide) (fun c_48 => ?_) (fun c_48 => ?_)
        · have c_48 : r_42.toInt = 0 := xI_eq rfl rfl c_48
          refine lv_aload_n hx hb dX12_unit_138 rfl (lv_at hl 1 rfl) ?_
          refine S_getI (v := (G_3.1 66 2)) (C := RX12) (T := TX12) (N := 89) hx hb hg iX12 hown hK hW kd_66 rfl 2 (by decide) (hg (Cond.fieldLink RX12 218 "SlabWalkModel" "fault" "I") m1316) (fun _ h9 => h9) rfl ((hq_44.i 66 2 (by decide) (by decide)).trans ((hq_36.i 66 2 (by decide) (by decide)).trans ((hq_31.i 66 2 (by decide) (by decide)).trans (rfl)))) dX12_unit_139 ?_
          refine lv_if_le (tgt := 146) hx hb dX12_unit_142 (by decide) (fun c_49 => ?_) (fun c_49 => ?_)
          · have c_49 : (G_3.1 66 2).toInt ≤ 0 := xI_le rfl rfl c_49
            refine lv_aload_n hx hb dX12_unit_146 rfl (lv_at hl 1 rfl) ?_
            have g_50 : (G_43.1 66 23).toInt = (G_3.1 66 23).toInt := by rw [show G_43.1 66 23 = (G_3.1 66 23) from ((hq_44.i 66 23 (by decide) (by decide)).trans ((hq_36.i 66 23 (by decide) (by decide)).trans ((hq_31.i 66 23 (by decide) (by decide)).trans (rfl))))]
            have g_51 : (G_43.1 66 23).toInt = (G_3.1 66 23).toInt := by rw [show G_43.1 66 23 = (G_3.1 66 23) from ((hq_44.i 66 23 (by decide) (by decide)).trans ((hq_36.i 66 23 (by decide) (by decide)).trans ((hq_31.i 66 23 (by decide) (by decide)).trans (rfl))))]
            refine S_callv (va_runV (As := []) (rest := []) ⟨hx, hb, hml, hown, hts⟩ (n_countUnit l D k A a z G_43  (by omega)) (cwV 0 hts (gd_V hgd m1733 m1735 m74 m131 m1736) rfl rfl rfl (by decide +kernel) ⟨Nat.le_of_ble_eq_true rfl, Nat.le_of_ble_eq_true rfl⟩) (pre_V hW hB_G_43 hK hZ hS kd_66 rfl) rfl rfl hl.1 rfl (lv_room (Nat.le_of_ble_eq_true rfl)) dX12_unit_147 ⟨Nat.le_of_ble_eq_true rfl, Nat.le_of_ble_eq_true rfl⟩) hS (fun G_53 H locs hpo hW hS => ?_)
            have hX_56 : Q_countUnit G_43 G_53 := hpo
            obtain ⟨hB_G_53, hq_54, hp_55, -⟩ := hpo
            have hF := hF.call hq_54 (by decide) (by decide)
            refine lv_aload_n hx hb dX12_unit_150 rfl (lv_at hl 1 rfl) ?_
            refine lv_iload_n hx hb dX12_unit_151 rfl (lv_at hl 0 rfl) ?_
            refine lv_if_ge (tgt := 159) hx hb dX12_unit_152 (by decide) (fun c_57 => ?_) (fun c_57 => ?_)
            · have c_57 : 0 ≤ r_34.toInt := xI_le rfl rfl c_57
              refine lv_iconst (v := 1) hx hb dX12_unit_159 (by decide) ?_
              refine lv_iload_n hx hb dX12_unit_160 rfl (lv_at hl 0 rfl) ?_
              refine lv_if_ge (tgt := 171) hx hb dX12_unit_161 (by decide) (fun c_58 => ?_) (fun c_58 => ?_)
              · have c_58 : 0 ≤ r_34.toInt := xI_le rfl rfl c_58
                refine lv_iload_n hx hb dX12_unit_171 rfl (lv_at hl 0 rfl) ?_
                have g_59 : gM G_53 = gM G := gM_fr (rs := [75]) (fs := [(66, 2), (66, 3), (66, 4), (66, 6), (66, 7), (66, 8), (66, 9), (66, 20), (66, 21), (66, 23), (66, 24)]) (((((Fr.rf.call hq_4 (by decide) (by decide)).call hq_31 (by decide) (by decide)).call hq_36 (by decide) (by decide)).call hq_44 (by decide) (by decide)).call hq_54 (by decide) (by decide)) (by decide) (by decide)
                have qc_60 : (1 : Int32).toInt = 1 := rfl
                have g_61 : gC G_53 = gC G := gC_fr (rs := [75]) (fs := [(66, 2), (66, 3), (66, 4), (66, 6), (66, 7), (66, 8), (66, 9), (66, 20), (66, 21), (66, 23), (66, 24)]) (((((Fr.rf.call hq_4 (by decide) (by decide)).call hq_31 (by decide) (by decide)).call hq_36 (by decide) (by decide)).call hq_44 (by decide) (by decide)).call hq_54 (by decide) (by decide)) (by decide) (by decide)
                have g_62 : gD G_53 = gD G := gD_fr (rs := [75]) (fs := [(66, 2), (66, 3), (66, 4), (66, 6), (66, 7), (66, 8), (66, 9), (66, 20), (66, 21), (66, 23), (66, 24)]) (((((Fr.rf.call hq_4 (by decide) (by decide)).call hq_31 (by decide) (by decide)).call hq_36 (by decide) (by decide)).call hq_44 (by decide) (by decide)).call hq_54 (by decide) (by decide)) (by decide) (by decide)
                refine S_callv (va_runV (As := [.int 1, .int r_34]) (rest := []) ⟨hx, hb, hml, hown, hts⟩ (n_add l D k A a z G_53 1 r_34 ⟨by decide, by decide⟩ (by omega)) (cwV 2 hts (gd_V hgd m1741 m1743 m76 m131 m1744) rfl rfl rfl (by decide +kernel) ⟨Nat.le_of_ble_eq_true rfl, Nat.le_of_ble_eq_true rfl⟩) (pre_V hW hB_G_53 hK hZ hS kd_66 rfl) rfl rfl hl.1 rfl (lv_room (Nat.le_of_ble_eq_true rfl)) dX12_unit_172 ⟨Nat.le_of_ble_eq_true rfl, Nat.le_of_ble_eq_true rfl⟩) hS (fun G_64 H locs hpo hW hS => ?_)
                have hX_67 : Q_add 1 r_34 G_53 G_64 := hpo
                obtain ⟨hB_G_64, hq_65, hp_66, -⟩ := hpo
                have hF := hF.call hq_65 (by decide) (by decide)
                refine lv_aload_n hx hb dX12_unit_175 rfl (lv_at hl 1 rfl) ?_
                have g_68 : (G_64.1 66 4).toInt = (G_3.1 66 4).toInt := by rw [show G_64.1 66 4 = (G_3.1 66 4) from ((hq_65.i 66 4 (by decide) (by decide)).trans ((hq_54.i 66 4 (by decide) (by decide)).trans ((hq_44.i 66 4 (by decide) (by decide)).trans ((hq_36.i 66 4 (by decide) (by decide)).trans ((hq_31.i 66 4 (by decide) (by decide)).trans (rfl))))))]
                have g_69 : (G_64.1 66 6).toInt = (G_3.1 66 6).toInt := by rw [show G_64.1 66 6 = (G_3.1 66 6) from ((hq_65.i 66 6 (by decide) (by decide)).trans ((hq_54.i 66 6 (by decide) (by decide)).trans ((hq_44.i 66 6 (by decide) (by decide)).trans ((hq_36.i 66 6 (by decide) (by decide)).trans ((hq_31.i 66 6 (by decide) (by decide)).trans (rfl))))))]
                refine S_callv (va_runV (As := []) (rest := []) ⟨hx, hb, hml, hown, hts⟩ (n_token l D k A a z G_64  ) (cwV 0 hts (gd_V hgd m1602 m1604 m50 m131 m1605) rfl rfl rfl (by decide +kernel) ⟨Nat.le_of_ble_eq_true rfl, Nat.le_of_ble_eq_true rfl⟩) (pre_V hW hB_G_64 hK hZ hS kd_66 rfl) rfl rfl hl.1 rfl (lv_room (Nat.le_of_ble_eq_true rfl)) dX12_unit_176 ⟨Nat.le_of_ble_eq_true rfl, Nat.le_of_ble_eq_true rfl⟩) hS (fun G_71 H locs hpo hW hS => ?_)
                have hX_74 : Q_token G_64 G_71 := hpo
                obtain ⟨hB_G_71, hq_72, hp_73, -⟩ := hpo
                have hF := hF.call hq_72 (by decide) (by decide)
                have g_75 : gB G_71 = gB G_3 := gB_fr (rs := [69, 70, 71]) (fs := [(66, 4), (66, 6), (66, 7), (66, 8), (66, 9), (66, 21), (66, 23)]) ((((((Fr.rf.call hq_31 (by decide) (by decide)).call hq_36 (by decide) (by decide)).call hq_44 (by decide) (by decide)).call hq_54 (by decide) (by decide)).call hq_65 (by decide) (by decide)).call hq_72 (by decide) (by decide)) (by decide) (by decide)
                have g_76 : gC G_71 = gC G_64 := gC_fr (rs := []) (fs := [(66, 4), (66, 6), (66, 7), (66, 8), (66, 9)]) (Fr.rf.call hq_72 (by decide) (by decide)) (by decide) (by decide)
                have g_77 : gD G_71 = gD G_64 := gD_fr (rs := []) (fs := [(66, 4), (66, 6), (66, 7), (66, 8), (66, 9)]) (Fr.rf.call hq_72 (by decide) (by decide)) (by decide) (by decide)
                have g_78 : gM G_71 = gM G_64 := gM_fr (rs := []) (fs := [(66, 4), (66, 6), (66, 7), (66, 8), (66, 9)]) (Fr.rf.call hq_72 (by decide) (by decide)) (by decide) (by decide)
                have g_79 : (G_71.1 66 2).toInt = (G_3.1 66 2).toInt := by rw [show G_71.1 66 2 = (G_3.1 66 2) from ((hq_72.i 66 2 (by decide) (by decide)).trans ((hq_65.i 66 2 (by decide) (by decide)).trans ((hq_54.i 66 2 (by decide) (by decide)).trans ((hq_44.i 66 2 (by decide) (by decide)).trans ((hq_36.i 66 2 (by decide) (by decide)).trans ((hq_31.i 66 2 (by decide) (by decide)).trans (rfl)))))))]
                have g_80 : (G_71.1 66 20).toInt = (G_3.1 66 20).toInt := by rw [show G_71.1 66 20 = (G_3.1 66 20) from ((hq_72.i 66 20 (by decide) (by decide)).trans ((hq_65.i 66 20 (by decide) (by decide)).trans ((hq_54.i 66 20 (by decide) (by decide)).trans ((hq_44.i 66 20 (by decide) (by decide)).trans ((hq_36.i 66 20 (by decide) (by decide)).trans ((hq_31.i 66 20 (by decide) (by decide)).trans (rfl)))))))]
                have b_81 : 0 ≤ (G_53.1 66 23).toInt ∧ (G_53.1 66 23).toInt ≤ 40 := hB_G_53.i 66 23 rfl rfl
                have g_82 : (G_71.1 66 23).toInt = (G_53.1 66 23).toInt := by rw [show G_71.1 66 23 = (G_53.1 66 23) from ((hq_72.i 66 23 (by decide) (by decide)).trans (hq_65.i 66 23 (by decide) (by decide)))]
                have g_83 : (G_71.1 66 24).toInt = (G_3.1 66 24).toInt := by rw [show G_71.1 66 24 = (G_3.1 66 24) from ((hq_72.i 66 24 (by decide) (by decide)).trans ((hq_65.i 66 24 (by decide) (by decide)).trans ((hq_54.i 66 24 (by decide) (by decide)).trans ((hq_44.i 66 24 (by decide) (by decide)).trans ((hq_36.i 66 24 (by decide) (by decide)).trans ((hq_31.i 66 24 (by decide) (by decide)).trans (rfl)))))))]
                have b_84 : 0 ≤ (G_71.1 66 4).toInt ∧ (G_71.1 66 4).toInt ≤ 1600 := hB_G_71.i 66 4 rfl rfl
                exact W.vret hx hb hr (fun t ht _ => ⟨⟨G_71, rfl, (Q_unit_mk ⟨hB_G_71, hF, (by omega), ⟨x_7, G_3, hX_8, f_14, f_15, f_16, f_17, hB_G_3, hq_4, ⟨G_29, hX_32, hB_G_29, hq_31, (Or.inl ⟨c_33, ⟨r_34, G_35, hX_38, (Or.inl ⟨c_40, ⟨r_42, G_43, hX_46, (Or.inl ⟨c_48, ⟨G_53, hX_56, (Or.inl ⟨c_57, ⟨G_64, hX_67, ⟨G_71, hX_74, rfl⟩⟩⟩)⟩⟩)⟩⟩)⟩⟩)⟩⟩⟩), wd_t ht hW⟩, hS.F ht⟩) hS.2.2 dX12_unit_179
              · have c_58 : r_34.toInt < 0 := xI_nle rfl rfl c_58
                exfalso; omega
            · have c_57 : r_34.toInt < 0 := xI_nle rfl rfl c_57
              refine lv_iconst (v := 0) hx hb dX12_unit_155 (by decide) ?_
              refine lv_goto (tgt := 160) hx hb dX12_unit_156 (by decide) ?_
              refine lv_iload_n hx hb dX12_unit_160 rfl (lv_at hl 0 rfl) ?_
              refine lv_if_ge (tgt := 171) hx hb dX12_unit_161 (by decide) (fun c_85 => ?_) (fun c_85 => ?_)
              · have c_85 : 0 ≤ r_34.toInt := xI_le rfl rfl c_85
                exfalso; omega
              · have c_85 : r_34.toInt < 0 := xI_nle rfl rfl c_85
                refine lv_aload_n hx hb dX12_unit_164 rfl (lv_at hl 1 rfl) ?_
                refine S_getI (v := (G_3.1 66 8)) (C := RX12) (T := TX12) (N := 89) hx hb hg iX12 hown hK hW kd_66 rfl 8 (by decide) (hg (Cond.fieldLink RX12 202 "SlabWalkModel" "number" "I") m1322) (fun _ h9 => h9) rfl ((hq_54.i 66 8 (by decide) (by decide)).trans ((hq_44.i 66 8 (by decide) (by decide)).trans ((hq_36.i 66 8 (by decide) (by decide)).trans (hq_31.i 66 8 (by decide) (by decide))))) dX12_unit_165 ?_
                refine lv_goto (tgt := 172) hx hb dX12_unit_168 (by decide) ?_
                have g_86 : gM G_53 = gM G := gM_fr (rs := [75]) (fs := [(66, 2), (66, 3), (66, 4), (66, 6), (66, 7), (66, 8), (66, 9), (66, 20), (66, 21), (66, 23), (66, 24)]) (((((Fr.rf.call hq_4 (by decide) (by decide)).call hq_31 (by decide) (by decide)).call hq_36 (by decide) (by decide)).call hq_44 (by decide) (by decide)).call hq_54 (by decide) (by decide)) (by decide) (by decide)
                have qc_87 : (0 : Int32).toInt = 0 := rfl
                have g_88 : gC G_53 = gC G := gC_fr (rs := [75]) (fs := [(66, 2), (66, 3), (66, 4), (66, 6), (66, 7), (66, 8), (66, 9), (66, 20), (66, 21), (66, 23), (66, 24)]) (((((Fr.rf.call hq_4 (by decide) (by decide)).call hq_31 (by decide) (by decide)).call hq_36 (by decide) (by decide)).call hq_44 (by decide) (by decide)).call hq_54 (by decide) (by decide)) (by decide) (by decide)
                have g_89 : gD G_53 = gD G := gD_fr (rs := [75]) (fs := [(66, 2), (66, 3), (66, 4), (66, 6), (66, 7), (66, 8), (66, 9), (66, 20), (66, 21), (66, 23), (66, 24)]) (((((Fr.rf.call hq_4 (by decide) (by decide)).call hq_31 (by decide) (by decide)).call hq_36 (by decide) (by decide)).call hq_44 (by decide) (by decide)).call hq_54 (by decide) (by decide)) (by decide) (by decide)
                refine S_callv (va_runV (As := [.int 0, .int (G_3.1 66 8)]) (rest := []) ⟨hx, hb, hml, hown, hts⟩ (n_add l D k A a z G_53 0 (G_3.1 66 8) ⟨by decide, by decide⟩ (by omega)) (cwV 2 hts (gd_V hgd m1741 m1743 m76 m131 m1744) rfl rfl rfl (by decide +kernel) ⟨Nat.le_of_ble_eq_true rfl, Nat.le_of_ble_eq_true rfl⟩) (pre_V hW hB_G_53 hK hZ hS kd_66 rfl) rfl rfl hl.1 rfl (lv_room (Nat.le_of_ble_eq_true rfl)) dX12_unit_172 ⟨Nat.le_of_ble_eq_true rfl, Nat.le_of_ble_eq_true rfl⟩) hS (fun G_91 H locs hpo hW hS => ?_)
                have hX_94 : Q_add 0 (G_3.1 66 8) G_53 G_91 := hpo
                obtain ⟨hB_G_91, hq_92, hp_93, -⟩ := hpo
                have hF := hF.call hq_92 (by decide) (by decide)
                refine lv_aload_n hx hb dX12_unit_175 rfl (lv_at hl 1 rfl) ?_
                have g_95 : (G_91.1 66 4).toInt = (G_3.1 66 4).toInt := by rw [show G_91.1 66 4 = (G_3.1 66 4) from ((hq_92.i 66 4 (by decide) (by decide)).trans ((hq_54.i 66 4 (by decide) (by decide)).trans ((hq_44.i 66 4 (by decide) (by decide)).trans ((hq_36.i 66 4 (by decide) (by decide)).trans ((hq_31.i 66 4 (by decide) (by decide)).trans (rfl))))))]
                have g_96 : (G_91.1 66 6).toInt = (G_3.1 66 6).toInt := by rw [show G_91.1 66 6 = (G_3.1 66 6) from ((hq_92.i 66 6 (by decide) (by decide)).trans ((hq_54.i 66 6 (by decide) (by decide)).trans ((hq_44.i 66 6 (by decide) (by decide)).trans ((hq_36.i 66 6 (by decide) (by decide)).trans ((hq_31.i 66 6 (by decide) (by decide)).trans (rfl))))))]
                refine S_callv (va_runV (As := []) (rest := []) ⟨hx, hb, hml, hown, hts⟩ (n_token l D k A a z G_91  ) (cwV 0 hts (gd_V hgd m1602 m1604 m50 m131 m1605) rfl rfl rfl (by decide +kernel) ⟨Nat.le_of_ble_eq_true rfl, Nat.le_of_ble_eq_true rfl⟩) (pre_V hW hB_G_91 hK hZ hS kd_66 rfl) rfl rfl hl.1 rfl (lv_room (Nat.le_of_ble_eq_true rfl)) dX12_unit_176 ⟨Nat.le_of_ble_eq_true rfl, Nat.le_of_ble_eq_true rfl⟩) hS (fun G_98 H locs hpo hW hS => ?_)
                have hX_101 : Q_token G_91 G_98 := hpo
                obtain ⟨hB_G_98, hq_99, hp_100, -⟩ := hpo
                have hF := hF.call hq_99 (by decide) (by decide)
                have g_102 : gB G_98 = gB G_3 := gB_fr (rs := [69, 70, 71]) (fs := [(66, 4), (66, 6), (66, 7), (66, 8), (66, 9), (66, 21), (66, 23)]) ((((((Fr.rf.call hq_31 (by decide) (by decide)).call hq_36 (by decide) (by decide)).call hq_44 (by decide) (by decide)).call hq_54 (by decide) (by decide)).call hq_92 (by decide) (by decide)).call hq_99 (by decide) (by decide)) (by decide) (by decide)
                have g_103 : gC G_98 = gC G_91 := gC_fr (rs := []) (fs := [(66, 4), (66, 6), (66, 7), (66, 8), (66, 9)]) (Fr.rf.call hq_99 (by decide) (by decide)) (by decide) (by decide)
                have g_104 : gD G_98 = gD G_91 := gD_fr (rs := []) (fs := [(66, 4), (66, 6), (66, 7), (66, 8), (66, 9)]) (Fr.rf.call hq_99 (by decide) (by decide)) (by decide) (by decide)
                have g_105 : gM G_98 = gM G_91 := gM_fr (rs := []) (fs := [(66, 4), (66, 6), (66, 7), (66, 8), (66, 9)]) (Fr.rf.call hq_99 (by decide) (by decide)) (by decide) (by decide)
                have g_106 : (G_98.1 66 2).toInt = (G_3.1 66 2).toInt := by rw [show G_98.1 66 2 = (G_3.1 66 2) from ((hq_99.i 66 2 (by decide) (by decide)).trans ((hq_92.i 66 2 (by decide) (by decide)).trans ((hq_54.i 66 2 (by decide) (by decide)).trans ((hq_44.i 66 2 (by decide) (by decide)).trans ((hq_36.i 66 2 (by decide) (by decide)).trans ((hq_31.i 66 2 (by decide) (by decide)).trans (rfl)))))))]
                have g_107 : (G_98.1 66 20).toInt = (G_3.1 66 20).toInt := by rw [show G_98.1 66 20 = (G_3.1 66 20) from ((hq_99.i 66 20 (by decide) (by decide)).trans ((hq_92.i 66 20 (by decide) (by decide)).trans ((hq_54.i 66 20 (by decide) (by decide)).trans ((hq_44.i 66 20 (by decide) (by decide)).trans ((hq_36.i 66 20 (by decide) (by decide)).trans ((hq_31.i 66 20 (by decide) (by decide)).trans (rfl)))))))]
                have b_108 : 0 ≤ (G_53.1 66 23).toInt ∧ (G_53.1 66 23).toInt ≤ 40 := hB_G_53.i 66 23 rfl rfl
                have g_109 : (G_98.1 66 23).toInt = (G_53.1 66 23).toInt := by rw [show G_98.1 66 23 = (G_53.1 66 23) from ((hq_99.i 66 23 (by decide) (by decide)).trans (hq_92.i 66 23 (by decide) (by decide)))]
                have g_110 : (G_98.1 66 24).toInt = (G_3.1 66 24).toInt := by rw [show G_98.1 66 24 = (G_3.1 66 24) from ((hq_99.i 66 24 (by decide) (by decide)).trans ((hq_92.i 66 24 (by decide) (by decide)).trans ((hq_54.i 66 24 (by decide) (by decide)).trans ((hq_44.i 66 24 (by decide) (by decide)).trans ((hq_36.i 66 24 (by decide) (by decide)).trans ((hq_31.i 66 24 (by decide) (by decide)).trans (rfl)))))))]
                have b_111 : 0 ≤ (G_98.1 66 4).toInt ∧ (G_98.1 66 4).toInt ≤ 1600 := hB_G_98.i 66 4 rfl rfl
                exact W.vret hx hb hr (fun t ht _ => ⟨⟨G_98, rfl, (Q_unit_mk ⟨hB_G_98, hF, (by omega), ⟨x_7, G_3, hX_8, f_14, f_15, f_16, f_17, hB_G_3, hq_4, ⟨G_29, hX_32, hB_G_29, hq_31, (Or.inl ⟨c_33, ⟨r_34, G_35, hX_38, (Or.inl ⟨c_40, ⟨r_42, G_43, hX_46, (Or.inl ⟨c_48, ⟨G_53, hX_56, (Or.inr ⟨c_57, ⟨G_91, hX_94, ⟨G_98, hX_101, rfl⟩⟩⟩)⟩⟩)⟩⟩)⟩⟩)⟩⟩⟩), wd_t ht hW⟩, hS.F ht⟩) hS.2.2 dX12_unit_179
          · have c_49 : 0 < (G_3.1 66 2).toInt := xI_nle rfl rfl c_49
            exfalso; omega
        · have c_48 : r_42.toInt ≠ 0 := xI_ne rfl rfl c_48
          refine lv_aload_n hx hb dX12_unit_133 rfl (lv_at hl 1 rfl) ?_
          refine lv_iconst (v := 2) hx hb dX12_unit_134 (by decide) ?_
          have qc_112 : (2 : Int32).toInt = 2 := rfl
          refine S_callv (va_runV (As := [.int 2]) (rest := []) ⟨hx, hb, hml, hown, hts⟩ (n_wrong l D k A a z G_43 2 ⟨by decide, by decide⟩) (cwV 1 hts (gd_V hgd m1670 m1672 m59 m131 m1673) rfl rfl rfl (by decide +kernel) ⟨Nat.le_of_ble_eq_true rfl, Nat.le_of_ble_eq_true rfl⟩) (pre_V hW hB_G_43 hK hZ hS kd_66 rfl) rfl rfl hl.1 rfl (lv_room (Nat.le_of_ble_eq_true rfl)) dX12_unit_135 ⟨Nat.le_of_ble_eq_true rfl, Nat.le_of_ble_eq_true rfl⟩) hS (fun G_114 H locs hpo hW hS => ?_)
          have hX_117 : Q_wrong 2 G_43 G_114 := hpo
          obtain ⟨hB_G_114, hq_115, hp_116, -⟩ := hpo
          have hF := hF.call hq_115 (by decide) (by decide)
          refine lv_aload_n hx hb dX12_unit_138 rfl (lv_at hl 1 rfl) ?_
          have b_118 : 0 ≤ (G_114.1 66 2).toInt ∧ (G_114.1 66 2).toInt ≤ 4 := hB_G_114.i 66 2 rfl rfl
          refine S_getI (v := (G_114.1 66 2)) (C := RX12) (T := TX12) (N := 89) hx hb hg iX12 hown hK hW kd_66 rfl 2 (by decide) (hg (Cond.fieldLink RX12 218 "SlabWalkModel" "fault" "I") m1316) (fun _ h9 => h9) rfl rfl dX12_unit_139 ?_
          refine lv_if_le (tgt := 146) hx hb dX12_unit_142 (by decide) (fun c_119 => ?_) (fun c_119 => ?_)
          · have c_119 : (G_114.1 66 2).toInt ≤ 0 := xI_le rfl rfl c_119
            refine lv_aload_n hx hb dX12_unit_146 rfl (lv_at hl 1 rfl) ?_
            have g_120 : (G_114.1 66 23).toInt = (G_3.1 66 23).toInt := by rw [show G_114.1 66 23 = (G_3.1 66 23) from ((hq_115.i 66 23 (by decide) (by decide)).trans ((hq_44.i 66 23 (by decide) (by decide)).trans ((hq_36.i 66 23 (by decide) (by decide)).trans ((hq_31.i 66 23 (by decide) (by decide)).trans (rfl)))))]
            have g_121 : (G_114.1 66 23).toInt = (G_3.1 66 23).toInt := by rw [show G_114.1 66 23 = (G_3.1 66 23) from ((hq_115.i 66 23 (by decide) (by decide)).trans ((hq_44.i 66 23 (by decide) (by decide)).trans ((hq_36.i 66 23 (by decide) (by decide)).trans ((hq_31.i 66 23 (by decide) (by decide)).trans (rfl)))))]
            refine S_callv (va_runV (As := []) (rest := []) ⟨hx, hb, hml, hown, hts⟩ (n_countUnit l D k A a z G_114  (by omega)) (cwV 0 hts (gd_V hgd m1733 m1735 m74 m131 m1736) rfl rfl rfl (by decide +kernel) ⟨Nat.le_of_ble_eq_true rfl, Nat.le_of_ble_eq_true rfl⟩) (pre_V hW hB_G_114 hK hZ hS kd_66 rfl) rfl rfl hl.1 rfl (lv_room (Nat.le_of_ble_eq_true rfl)) dX12_unit_147 ⟨Nat.le_of_ble_eq_true rfl, Nat.le_of_ble_eq_true rfl⟩) hS (fun G_123 H locs hpo hW hS => ?_)
            have hX_126 : Q_countUnit G_114 G_123 := hpo
            obtain ⟨hB_G_123, hq_124, hp_125, -⟩ := hpo
            have hF := hF.call hq_124 (by decide) (by decide)
            refine lv_aload_n hx hb dX12_unit_150 rfl (lv_at hl 1 rfl) ?_
            refine lv_iload_n hx hb dX12_unit_151 rfl (lv_at hl 0 rfl) ?_
            refine lv_if_ge (tgt := 159) hx hb dX12_unit_152 (by decide) (fun c_127 => ?_) (fun c_127 => ?_)
            · have c_127 : 0 ≤ r_34.toInt := xI_le rfl rfl c_127
              refine lv_iconst (v := 1) hx hb dX12_unit_159 (by decide) ?_
              refine lv_iload_n hx hb dX12_unit_160 rfl (lv_at hl 0 rfl) ?_
              refine lv_if_ge (tgt := 171) hx hb dX12_unit_161 (by decide) (fun c_128 => ?_) (fun c_128 => ?_)
              · have c_128 : 0 ≤ r_34.toInt := xI_le rfl rfl c_128
                refine lv_iload_n hx hb dX12_unit_171 rfl (lv_at hl 0 rfl) ?_
                have g_129 : gM G_123 = gM G := gM_fr (rs := [75]) (fs := [(66, 2), (66, 3), (66, 4), (66, 6), (66, 7), (66, 8), (66, 9), (66, 20), (66, 21), (66, 23), (66, 24)]) ((((((Fr.rf.call hq_4 (by decide) (by decide)).call hq_31 (by decide) (by decide)).call hq_36 (by decide) (by decide)).call hq_44 (by decide) (by decide)).call hq_115 (by decide) (by decide)).call hq_124 (by decide) (by decide)) (by decide) (by decide)
                have qc_130 : (1 : Int32).toInt = 1 := rfl
                have g_131 : gC G_123 = gC G := gC_fr (rs := [75]) (fs := [(66, 2), (66, 3), (66, 4), (66, 6), (66, 7), (66, 8), (66, 9), (66, 20), (66, 21), (66, 23), (66, 24)]) ((((((Fr.rf.call hq_4 (by decide) (by decide)).call hq_31 (by decide) (by decide)).call hq_36 (by decide) (by decide)).call hq_44 (by decide) (by decide)).call hq_115 (by decide) (by decide)).call hq_124 (by decide) (by decide)) (by decide) (by decide)
                have g_132 : gD G_123 = gD G := gD_fr (rs := [75]) (fs := [(66, 2), (66, 3), (66, 4), (66, 6), (66, 7), (66, 8), (66, 9), (66, 20), (66, 21), (66, 23), (66, 24)]) ((((((Fr.rf.call hq_4 (by decide) (by decide)).call hq_31 (by decide) (by decide)).call hq_36 (by decide) (by decide)).call hq_44 (by decide) (by decide)).call hq_115 (by decide) (by decide)).call hq_124 (by decide) (by decide)) (by decide) (by decide)
                refine S_callv (va_runV (As := [.int 1, .int r_34]) (rest := []) ⟨hx, hb, hml, hown, hts⟩ (n_add l D k A a z G_123 1 r_34 ⟨by decide, by decide⟩ (by omega)) (cwV 2 hts (gd_V hgd m1741 m1743 m76 m131 m1744) rfl rfl rfl (by decide +kernel) ⟨Nat.le_of_ble_eq_true rfl, Nat.le_of_ble_eq_true rfl⟩) (pre_V hW hB_G_123 hK hZ hS kd_66 rfl) rfl rfl hl.1 rfl (lv_room (Nat.le_of_ble_eq_true rfl)) dX12_unit_172 ⟨Nat.le_of_ble_eq_true rfl, Nat.le_of_ble_eq_true rfl⟩) hS (fun G_134 H locs hpo hW hS => ?_)
                have hX_137 : Q_add 1 r_34 G_123 G_134 := hpo
                obtain ⟨hB_G_134, hq_135, hp_136, -⟩ := hpo
                have hF := hF.call hq_135 (by decide) (by decide)
                refine lv_aload_n hx hb dX12_unit_175 rfl (lv_at hl 1 rfl) ?_
                have g_138 : (G_134.1 66 4).toInt = (G_3.1 66 4).toInt := by rw [show G_134.1 66 4 = (G_3.1 66 4) from ((hq_135.i 66 4 (by decide) (by decide)).trans ((hq_124.i 66 4 (by decide) (by decide)).trans ((hq_115.i 66 4 (by decide) (by decide)).trans ((hq_44.i 66 4 (by decide) (by decide)).trans ((hq_36.i 66 4 (by decide) (by decide)).trans ((hq_31.i 66 4 (by decide) (by decide)).trans (rfl)))))))]
                have g_139 : (G_134.1 66 6).toInt = (G_3.1 66 6).toInt := by rw [show G_134.1 66 6 = (G_3.1 66 6) from ((hq_135.i 66 6 (by decide) (by decide)).trans ((hq_124.i 66 6 (by decide) (by decide)).trans ((hq_115.i 66 6 (by decide) (by decide)).trans ((hq_44.i 66 6 (by decide) (by decide)).trans ((hq_36.i 66 6 (by decide) (by decide)).trans ((hq_31.i 66 6 (by decide) (by decide)).trans (rfl)))))))]
                refine S_callv (va_runV (As := []) (rest := []) ⟨hx, hb, hml, hown, hts⟩ (n_token l D k A a z G_134  ) (cwV 0 hts (gd_V hgd m1602 m1604 m50 m131 m1605) rfl rfl rfl (by decide +kernel) ⟨Nat.le_of_ble_eq_true rfl, Nat.le_of_ble_eq_true rfl⟩) (pre_V hW hB_G_134 hK hZ hS kd_66 rfl) rfl rfl hl.1 rfl (lv_room (Nat.le_of_ble_eq_true rfl)) dX12_unit_176 ⟨Nat.le_of_ble_eq_true rfl, Nat.le_of_ble_eq_true rfl⟩) hS (fun G_141 H locs hpo hW hS => ?_)
                have hX_144 : Q_token G_134 G_141 := hpo
                obtain ⟨hB_G_141, hq_142, hp_143, -⟩ := hpo
                have hF := hF.call hq_142 (by decide) (by decide)
                have g_145 : gB G_141 = gB G_3 := gB_fr (rs := [69, 70, 71]) (fs := [(66, 2), (66, 3), (66, 4), (66, 6), (66, 7), (66, 8), (66, 9), (66, 21), (66, 23)]) (((((((Fr.rf.call hq_31 (by decide) (by decide)).call hq_36 (by decide) (by decide)).call hq_44 (by decide) (by decide)).call hq_115 (by decide) (by decide)).call hq_124 (by decide) (by decide)).call hq_135 (by decide) (by decide)).call hq_142 (by decide) (by decide)) (by decide) (by decide)
                have g_146 : gC G_141 = gC G_134 := gC_fr (rs := []) (fs := [(66, 4), (66, 6), (66, 7), (66, 8), (66, 9)]) (Fr.rf.call hq_142 (by decide) (by decide)) (by decide) (by decide)
                have g_147 : gD G_141 = gD G_134 := gD_fr (rs := []) (fs := [(66, 4), (66, 6), (66, 7), (66, 8), (66, 9)]) (Fr.rf.call hq_142 (by decide) (by decide)) (by decide) (by decide)
                have g_148 : gM G_141 = gM G_134 := gM_fr (rs := []) (fs := [(66, 4), (66, 6), (66, 7), (66, 8), (66, 9)]) (Fr.rf.call hq_142 (by decide) (by decide)) (by decide) (by decide)
                have g_149 : (G_141.1 66 2).toInt = (G_114.1 66 2).toInt := by rw [show G_141.1 66 2 = (G_114.1 66 2) from ((hq_142.i 66 2 (by decide) (by decide)).trans ((hq_135.i 66 2 (by decide) (by decide)).trans ((hq_124.i 66 2 (by decide) (by decide)).trans (rfl))))]
                have g_150 : (G_141.1 66 20).toInt = (G_3.1 66 20).toInt := by rw [show G_141.1 66 20 = (G_3.1 66 20) from ((hq_142.i 66 20 (by decide) (by decide)).trans ((hq_135.i 66 20 (by decide) (by decide)).trans ((hq_124.i 66 20 (by decide) (by decide)).trans ((hq_115.i 66 20 (by decide) (by decide)).trans ((hq_44.i 66 20 (by decide) (by decide)).trans ((hq_36.i 66 20 (by decide) (by decide)).trans ((hq_31.i 66 20 (by decide) (by decide)).trans (rfl))))))))]
                have b_151 : 0 ≤ (G_123.1 66 23).toInt ∧ (G_123.1 66 23).toInt ≤ 40 := hB_G_123.i 66 23 rfl rfl
                have g_152 : (G_141.1 66 23).toInt = (G_123.1 66 23).toInt := by rw [show G_141.1 66 23 = (G_123.1 66 23) from ((hq_142.i 66 23 (by decide) (by decide)).trans (hq_135.i 66 23 (by decide) (by decide)))]
                have g_153 : (G_141.1 66 24).toInt = (G_3.1 66 24).toInt := by rw [show G_141.1 66 24 = (G_3.1 66 24) from ((hq_142.i 66 24 (by decide) (by decide)).trans ((hq_135.i 66 24 (by decide) (by decide)).trans ((hq_124.i 66 24 (by decide) (by decide)).trans ((hq_115.i 66 24 (by decide) (by decide)).trans ((hq_44.i 66 24 (by decide) (by decide)).trans ((hq_36.i 66 24 (by decide) (by decide)).trans ((hq_31.i 66 24 (by decide) (by decide)).trans (rfl))))))))]
                have b_154 : 0 ≤ (G_141.1 66 4).toInt ∧ (G_141.1 66 4).toInt ≤ 1600 := hB_G_141.i 66 4 rfl rfl
                exact W.vret hx hb hr (fun t ht _ => ⟨⟨G_141, rfl, (Q_unit_mk ⟨hB_G_141, hF, (by omega), ⟨x_7, G_3, hX_8, f_14, f_15, f_16, f_17, hB_G_3, hq_4, ⟨G_29, hX_32, hB_G_29, hq_31, (Or.inl ⟨c_33, ⟨r_34, G_35, hX_38, (Or.inl ⟨c_40, ⟨r_42, G_43, hX_46, (Or.inr ⟨c_48, ⟨G_114, hX_117, (Or.inl ⟨c_119, ⟨G_123, hX_126, (Or.inl ⟨c_127, ⟨G_134, hX_137, ⟨G_141, hX_144, rfl⟩⟩⟩)⟩⟩)⟩⟩)⟩⟩)⟩⟩)⟩⟩⟩), wd_t ht hW⟩, hS.F ht⟩) hS.2.2 dX12_unit_179
              · have c_128 : r_34.toInt < 0 := xI_nle rfl rfl c_128
                exfalso; omega
            · have c_127 : r_34.toInt < 0 := xI_nle rfl rfl c_127
              refine lv_iconst (v := 0) hx hb dX12_unit_155 (by decide) ?_
              refine lv_goto (tgt := 160) hx hb dX12_unit_156 (by decide) ?_
              refine lv_iload_n hx hb dX12_unit_160 rfl (lv_at hl 0 rfl) ?_
              refine lv_if_ge (tgt := 171) hx hb dX12_unit_161 (by decide) (fun c_155 => ?_) (fun c_155 => ?_)
              · have c_155 : 0 ≤ r_34.toInt := xI_le rfl rfl c_155
                exfalso; omega
              · have c_155 : r_34.toInt < 0 := xI_nle rfl rfl c_155
                refine lv_aload_n hx hb dX12_unit_164 rfl (lv_at hl 1 rfl) ?_
                refine S_getI (v := (G_3.1 66 8)) (C := RX12) (T := TX12) (N := 89) hx hb hg iX12 hown hK hW kd_66 rfl 8 (by decide) (hg (Cond.fieldLink RX12 202 "SlabWalkModel" "number" "I") m1322) (fun _ h9 => h9) rfl ((hq_124.i 66 8 (by decide) (by decide)).trans ((hq_115.i 66 8 (by decide) (by decide)).trans ((hq_44.i 66 8 (by decide) (by decide)).trans ((hq_36.i 66 8 (by decide) (by decide)).trans (hq_31.i 66 8 (by decide) (by decide)))))) dX12_unit_165 ?_
                refine lv_goto (tgt := 172) hx hb dX12_unit_168 (by decide) ?_
                have g_156 : gM G_123 = gM G := gM_fr (rs := [75]) (fs := [(66, 2), (66, 3), (66, 4), (66, 6), (66, 7), (66, 8), (66, 9), (66, 20), (66, 21), (66, 23), (66, 24)]) ((((((Fr.rf.call hq_4 (by decide) (by decide)).call hq_31 (by decide) (by decide)).call hq_36 (by decide) (by decide)).call hq_44 (by decide) (by decide)).call hq_115 (by decide) (by decide)).call hq_124 (by decide) (by decide)) (by decide) (by decide)
                have qc_157 : (0 : Int32).toInt = 0 := rfl
                have g_158 : gC G_123 = gC G := gC_fr (rs := [75]) (fs := [(66, 2), (66, 3), (66, 4), (66, 6), (66, 7), (66, 8), (66, 9), (66, 20), (66, 21), (66, 23), (66, 24)]) ((((((Fr.rf.call hq_4 (by decide) (by decide)).call hq_31 (by decide) (by decide)).call hq_36 (by decide) (by decide)).call hq_44 (by decide) (by decide)).call hq_115 (by decide) (by decide)).call hq_124 (by decide) (by decide)) (by decide) (by decide)
                have g_159 : gD G_123 = gD G := gD_fr (rs := [75]) (fs := [(66, 2), (66, 3), (66, 4), (66, 6), (66, 7), (66, 8), (66, 9), (66, 20), (66, 21), (66, 23), (66, 24)]) ((((((Fr.rf.call hq_4 (by decide) (by decide)).call hq_31 (by decide) (by decide)).call hq_36 (by decide) (by decide)).call hq_44 (by decide) (by decide)).call hq_115 (by decide) (by decide)).call hq_124 (by decide) (by decide)) (by decide) (by decide)
                refine S_callv (va_runV (As := [.int 0, .int (G_3.1 66 8)]) (rest := []) ⟨hx, hb, hml, hown, hts⟩ (n_add l D k A a z G_123 0 (G_3.1 66 8) ⟨by decide, by decide⟩ (by omega)) (cwV 2 hts (gd_V hgd m1741 m1743 m76 m131 m1744) rfl rfl rfl (by decide +kernel) ⟨Nat.le_of_ble_eq_true rfl, Nat.le_of_ble_eq_true rfl⟩) (pre_V hW hB_G_123 hK hZ hS kd_66 rfl) rfl rfl hl.1 rfl (lv_room (Nat.le_of_ble_eq_true rfl)) dX12_unit_172 ⟨Nat.le_of_ble_eq_true rfl, Nat.le_of_ble_eq_true rfl⟩) hS (fun G_161 H locs hpo hW hS => ?_)
                have hX_164 : Q_add 0 (G_3.1 66 8) G_123 G_161 := hpo
                obtain ⟨hB_G_161, hq_162, hp_163, -⟩ := hpo
                have hF := hF.call hq_162 (by decide) (by decide)
                refine lv_aload_n hx hb dX12_unit_175 rfl (lv_at hl 1 rfl) ?_
                have g_165 : (G_161.1 66 4).toInt = (G_3.1 66 4).toInt := by rw [show G_161.1 66 4 = (G_3.1 66 4) from ((hq_162.i 66 4 (by decide) (by decide)).trans ((hq_124.i 66 4 (by decide) (by decide)).trans ((hq_115.i 66 4 (by decide) (by decide)).trans ((hq_44.i 66 4 (by decide) (by decide)).trans ((hq_36.i 66 4 (by decide) (by decide)).trans ((hq_31.i 66 4 (by decide) (by decide)).trans (rfl)))))))]
                have g_166 : (G_161.1 66 6).toInt = (G_3.1 66 6).toInt := by rw [show G_161.1 66 6 = (G_3.1 66 6) from ((hq_162.i 66 6 (by decide) (by decide)).trans ((hq_124.i 66 6 (by decide) (by decide)).trans ((hq_115.i 66 6 (by decide) (by decide)).trans ((hq_44.i 66 6 (by decide) (by decide)).trans ((hq_36.i 66 6 (by decide) (by decide)).trans ((hq_31.i 66 6 (by decide) (by decide)).trans (rfl)))))))]
                refine S_callv (va_runV (As := []) (rest := []) ⟨hx, hb, hml, hown, hts⟩ (n_token l D k A a z G_161  ) (cwV 0 hts (gd_V hgd m1602 m1604 m50 m131 m1605) rfl rfl rfl (by decide +kernel) ⟨Nat.le_of_ble_eq_true rfl, Nat.le_of_ble_eq_true rfl⟩) (pre_V hW hB_G_161 hK hZ hS kd_66 rfl) rfl rfl hl.1 rfl (lv_room (Nat.le_of_ble_eq_true rfl)) dX12_unit_176 ⟨Nat.le_of_ble_eq_true rfl, Nat.le_of_ble_eq_true rfl⟩) hS (fun G_168 H locs hpo hW hS => ?_)
                have hX_171 : Q_token G_161 G_168 := hpo
                obtain ⟨hB_G_168, hq_169, hp_170, -⟩ := hpo
                have hF := hF.call hq_169 (by decide) (by decide)
                have g_172 : gB G_168 = gB G_3 := gB_fr (rs := [69, 70, 71]) (fs := [(66, 2), (66, 3), (66, 4), (66, 6), (66, 7), (66, 8), (66, 9), (66, 21), (66, 23)]) (((((((Fr.rf.call hq_31 (by decide) (by decide)).call hq_36 (by decide) (by decide)).call hq_44 (by decide) (by decide)).call hq_115 (by decide) (by decide)).call hq_124 (by decide) (by decide)).call hq_162 (by decide) (by decide)).call hq_169 (by decide) (by decide)) (by decide) (by decide)
                have g_173 : gC G_168 = gC G_161 := gC_fr (rs := []) (fs := [(66, 4), (66, 6), (66, 7), (66, 8), (66, 9)]) (Fr.rf.call hq_169 (by decide) (by decide)) (by decide) (by decide)
                have g_174 : gD G_168 = gD G_161 := gD_fr (rs := []) (fs := [(66, 4), (66, 6), (66, 7), (66, 8), (66, 9)]) (Fr.rf.call hq_169 (by decide) (by decide)) (by decide) (by decide)
                have g_175 : gM G_168 = gM G_161 := gM_fr (rs := []) (fs := [(66, 4), (66, 6), (66, 7), (66, 8), (66, 9)]) (Fr.rf.call hq_169 (by decide) (by decide)) (by decide) (by decide)
                have g_176 : (G_168.1 66 2).toInt = (G_114.1 66 2).toInt := by rw [show G_168.1 66 2 = (G_114.1 66 2) from ((hq_169.i 66 2 (by decide) (by decide)).trans ((hq_162.i 66 2 (by decide) (by decide)).trans ((hq_124.i 66 2 (by decide) (by decide)).trans (rfl))))]
                have g_177 : (G_168.1 66 20).toInt = (G_3.1 66 20).toInt := by rw [show G_168.1 66 20 = (G_3.1 66 20) from ((hq_169.i 66 20 (by decide) (by decide)).trans ((hq_162.i 66 20 (by decide) (by decide)).trans ((hq_124.i 66 20 (by decide) (by decide)).trans ((hq_115.i 66 20 (by decide) (by decide)).trans ((hq_44.i 66 20 (by decide) (by decide)).trans ((hq_36.i 66 20 (by decide) (by decide)).trans ((hq_31.i 66 20 (by decide) (by decide)).trans (rfl))))))))]
                have b_178 : 0 ≤ (G_123.1 66 23).toInt ∧ (G_123.1 66 23).toInt ≤ 40 := hB_G_123.i 66 23 rfl rfl
                have g_179 : (G_168.1 66 23).toInt = (G_123.1 66 23).toInt := by rw [show G_168.1 66 23 = (G_123.1 66 23) from ((hq_169.i 66 23 (by decide) (by decide)).trans (hq_162.i 66 23 (by decide) (by decide)))]
                have g_180 : (G_168.1 66 24).toInt = (G_3.1 66 24).toInt := by rw [show G_168.1 66 24 = (G_3.1 66 24) from ((hq_169.i 66 24 (by decide) (by decide)).trans ((hq_162.i 66 24 (by decide) (by decide)).trans ((hq_124.i 66 24 (by decide) (by decide)).trans ((hq_115.i 66 24 (by decide) (by decide)).trans ((hq_44.i 66 24 (by decide) (by decide)).trans ((hq_36.i 66 24 (by decide) (by decide)).trans ((hq_31.i 66 24 (by decide) (by decide)).trans (rfl))))))))]
                have b_181 : 0 ≤ (G_168.1 66 4).toInt ∧ (G_168.1 66 4).toInt ≤ 1600 := hB_G_168.i 66 4 rfl rfl
                exact W.vret hx hb hr (fun t ht _ => ⟨⟨G_168, rfl, (Q_unit_mk ⟨hB_G_168, hF, (by omega), ⟨x_7, G_3, hX_8, f_14, f_15, f_16, f_17, hB_G_3, hq_4, ⟨G_29, hX_32, hB_G_29, hq_31, (Or.inl ⟨c_33, ⟨r_34, G_35, hX_38, (Or.inl ⟨c_40, ⟨r_42, G_43, hX_46, (Or.inr ⟨c_48, ⟨G_114, hX_117, (Or.inl ⟨c_119, ⟨G_123, hX_126, (Or.inr ⟨c_127, ⟨G_161, hX_164, ⟨G_168, hX_171, rfl⟩⟩⟩)⟩⟩)⟩⟩)⟩⟩)⟩⟩)⟩⟩⟩), wd_t ht hW⟩, hS.F ht⟩) hS.2.2 dX12_unit_179
          · have c_119 : 0 < (G_114.1 66 2).toInt := xI_nle rfl rfl c_119
            have g_182 : gB G_114 = gB G_3 := gB_fr (rs := []) (fs := [(66, 2), (66, 3)]) ((((Fr.rf.call hq_31 (by decide) (by decide)).call hq_36 (by decide) (by decide)).call hq_44 (by decide) (by decide)).call hq_115 (by decide) (by decide)) (by decide) (by decide)
            have g_183 : gC G_114 = gC G := gC_fr (rs := [75]) (fs := [(66, 2), (66, 3), (66, 4), (66, 6), (66, 7), (66, 8), (66, 9), (66, 20), (66, 21), (66, 23), (66, 24)]) (((((Fr.rf.call hq_4 (by decide) (by decide)).call hq_31 (by decide) (by decide)).call hq_36 (by decide) (by decide)).call hq_44 (by decide) (by decide)).call hq_115 (by decide) (by decide)) (by decide) (by decide)
            have g_184 : gD G_114 = gD G := gD_fr (rs := [75]) (fs := [(66, 2), (66, 3), (66, 4), (66, 6), (66, 7), (66, 8), (66, 9), (66, 20), (66, 21), (66, 23), (66, 24)]) (((((Fr.rf.call hq_4 (by decide) (by decide)).call hq_31 (by decide) (by decide)).call hq_36 (by decide) (by decide)).call hq_44 (by decide) (by decide)).call hq_115 (by decide) (by decide)) (by decide) (by decide)
            have g_185 : gM G_114 = gM G := gM_fr (rs := [75]) (fs := [(66, 2), (66, 3), (66, 4), (66, 6), (66, 7), (66, 8), (66, 9), (66, 20), (66, 21), (66, 23), (66, 24)]) (((((Fr.rf.call hq_4 (by decide) (by decide)).call hq_31 (by decide) (by decide)).call hq_36 (by decide) (by decide)).call hq_44 (by decide) (by decide)).call hq_115 (by decide) (by decide)) (by decide) (by decide)
            have g_186 : (G_114.1 66 20).toInt = (G_3.1 66 20).toInt := by rw [show G_114.1 66 20 = (G_3.1 66 20) from ((hq_115.i 66 20 (by decide) (by decide)).trans ((hq_44.i 66 20 (by decide) (by decide)).trans ((hq_36.i 66 20 (by decide) (by decide)).trans ((hq_31.i 66 20 (by decide) (by decide)).trans (rfl)))))]
            have g_187 : (G_114.1 66 23).toInt = (G_3.1 66 23).toInt := by rw [show G_114.1 66 23 = (G_3.1 66 23) from ((hq_115.i 66 23 (by decide) (by decide)).trans ((hq_44.i 66 23 (by decide) (by decide)).trans ((hq_36.i 66 23 (by decide) (by decide)).trans ((hq_31.i 66 23 (by decide) (by decide)).trans (rfl)))))]
            have g_188 : (G_114.1 66 24).toInt = (G_3.1 66 24).toInt := by rw [show G_114.1 66 24 = (G_3.1 66 24) from ((hq_115.i 66 24 (by decide) (by decide)).trans ((hq_44.i 66 24 (by decide) (by decide)).trans ((hq_36.i 66 24 (by decide) (by decide)).trans ((hq_31.i 66 24 (by decide) (by decide)).trans (rfl)))))]
            have g_189 : (G_114.1 66 4).toInt = (G_3.1 66 4).toInt := by rw [show G_114.1 66 4 = (G_3.1 66 4) from ((hq_115.i 66 4 (by decide) (by decide)).trans ((hq_44.i 66 4 (by decide) (by decide)).trans ((hq_36.i 66 4 (by decide) (by decide)).trans ((hq_31.i 66 4 (by decide) (by decide)).trans (rfl)))))]
            have g_190 : (G_114.1 66 6).toInt = (G_3.1 66 6).toInt := by rw [show G_114.1 66 6 = (G_3.1 66 6) from ((hq_115.i 66 6 (by decide) (by decide)).trans ((hq_44.i 66 6 (by decide) (by decide)).trans ((hq_36.i 66 6 (by decide) (by decide)).trans ((hq_31.i 66 6 (by decide) (by decide)).trans (rfl)))))]
            exact W.vret hx hb hr (fun t ht _ => ⟨⟨G_114, rfl, (Q_unit_mk ⟨hB_G_114, hF, (by omega), ⟨x_7, G_3, hX_8, f_14, f_15, f_16, f_17, hB_G_3, hq_4, ⟨G_29, hX_32, hB_G_29, hq_31, (Or.inl ⟨c_33, ⟨r_34, G_35, hX_38, (Or.inl ⟨c_40, ⟨r_42, G_43, hX_46, (Or.inr ⟨c_48, ⟨G_114, hX_117, (Or.inr ⟨c_119, rfl⟩)⟩⟩)⟩⟩)⟩⟩)⟩⟩⟩), wd_t ht hW⟩, hS.F ht⟩) hS.2.2 dX12_unit_145
      · have c_40 : (G_3.1 66 6).toInt ≠ 2 := xI_ne rfl rfl c_40
        refine lv_iload_n hx hb dX12_unit_122 rfl (lv_at hl 0 rfl) ?_
        refine lv_if_lt (tgt := 133) hx hb dX12_unit_123 (by decide) (fun c_191 => ?_) (fun c_191 => ?_)
        · have c_191 : r_34.toInt < 0 := xI_lt rfl rfl c_191
          refine lv_aload_n hx hb dX12_unit_133 rfl (lv_at hl 1 rfl) ?_
          refine lv_iconst (v := 2) hx hb dX12_unit_134 (by decide) ?_
          have qc_192 : (2 : Int32).toInt = 2 := rfl
          refine S_callv (va_runV (As := [.int 2]) (rest := []) ⟨hx, hb, hml, hown, hts⟩ (n_wrong l D k A a z G_35 2 ⟨by decide, by decide⟩) (cwV 1 hts (gd_V hgd m1670 m1672 m59 m131 m1673) rfl rfl rfl (by decide +kernel) ⟨Nat.le_of_ble_eq_true rfl, Nat.le_of_ble_eq_true rfl⟩) (pre_V hW hB_G_35 hK hZ hS kd_66 rfl) rfl rfl hl.1 rfl (lv_room (Nat.le_of_ble_eq_true rfl)) dX12_unit_135 ⟨Nat.le_of_ble_eq_true rfl, Nat.le_of_ble_eq_true rfl⟩) hS (fun G_194 H locs hpo hW hS => ?_)
          have hX_197 : Q_wrong 2 G_35 G_194 := hpo
          obtain ⟨hB_G_194, hq_195, hp_196, -⟩ := hpo
          have hF := hF.call hq_195 (by decide) (by decide)
          refine lv_aload_n hx hb dX12_unit_138 rfl (lv_at hl 1 rfl) ?_
          have b_198 : 0 ≤ (G_194.1 66 2).toInt ∧ (G_194.1 66 2).toInt ≤ 4 := hB_G_194.i 66 2 rfl rfl
          refine S_getI (v := (G_194.1 66 2)) (C := RX12) (T := TX12) (N := 89) hx hb hg iX12 hown hK hW kd_66 rfl 2 (by decide) (hg (Cond.fieldLink RX12 218 "SlabWalkModel" "fault" "I") m1316) (fun _ h9 => h9) rfl rfl dX12_unit_139 ?_
          refine lv_if_le (tgt := 146) hx hb dX12_unit_142 (by decide) (fun c_199 => ?_) (fun c_199 => ?_)
          · have c_199 : (G_194.1 66 2).toInt ≤ 0 := xI_le rfl rfl c_199
            refine lv_aload_n hx hb dX12_unit_146 rfl (lv_at hl 1 rfl) ?_
            have g_200 : (G_194.1 66 23).toInt = (G_3.1 66 23).toInt := by rw [show G_194.1 66 23 = (G_3.1 66 23) from ((hq_195.i 66 23 (by decide) (by decide)).trans ((hq_36.i 66 23 (by decide) (by decide)).trans ((hq_31.i 66 23 (by decide) (by decide)).trans (rfl))))]
            have g_201 : (G_194.1 66 23).toInt = (G_3.1 66 23).toInt := by rw [show G_194.1 66 23 = (G_3.1 66 23) from ((hq_195.i 66 23 (by decide) (by decide)).trans ((hq_36.i 66 23 (by decide) (by decide)).trans ((hq_31.i 66 23 (by decide) (by decide)).trans (rfl))))]
            refine S_callv (va_runV (As := []) (rest := []) ⟨hx, hb, hml, hown, hts⟩ (n_countUnit l D k A a z G_194  (by omega)) (cwV 0 hts (gd_V hgd m1733 m1735 m74 m131 m1736) rfl rfl rfl (by decide +kernel) ⟨Nat.le_of_ble_eq_true rfl, Nat.le_of_ble_eq_true rfl⟩) (pre_V hW hB_G_194 hK hZ hS kd_66 rfl) rfl rfl hl.1 rfl (lv_room (Nat.le_of_ble_eq_true rfl)) dX12_unit_147 ⟨Nat.le_of_ble_eq_true rfl, Nat.le_of_ble_eq_true rfl⟩) hS (fun G_203 H locs hpo hW hS => ?_)
            have hX_206 : Q_countUnit G_194 G_203 := hpo
            obtain ⟨hB_G_203, hq_204, hp_205, -⟩ := hpo
            have hF := hF.call hq_204 (by decide) (by decide)
            refine lv_aload_n hx hb dX12_unit_150 rfl (lv_at hl 1 rfl) ?_
            refine lv_iload_n hx hb dX12_unit_151 rfl (lv_at hl 0 rfl) ?_
            refine lv_if_ge (tgt := 159) hx hb dX12_unit_152 (by decide) (fun c_207 => ?_) (fun c_207 => ?_)
            · have c_207 : 0 ≤ r_34.toInt := xI_le rfl rfl c_207
              exfalso; omega
            · have c_207 : r_34.toInt < 0 := xI_nle rfl rfl c_207
              refine lv_iconst (v := 0) hx hb dX12_unit_155 (by decide) ?_
              refine lv_goto (tgt := 160) hx hb dX12_unit_156 (by decide) ?_
              refine lv_iload_n hx hb dX12_unit_160 rfl (lv_at hl 0 rfl) ?_
              refine lv_if_ge (tgt := 171) hx hb dX12_unit_161 (by decide) (fun c_208 => ?_) (fun c_208 => ?_)
              · have c_208 : 0 ≤ r_34.toInt := xI_le rfl rfl c_208
                exfalso; omega
              · have c_208 : r_34.toInt < 0 := xI_nle rfl rfl c_208
                refine lv_aload_n hx hb dX12_unit_164 rfl (lv_at hl 1 rfl) ?_
                refine S_getI (v := (G_3.1 66 8)) (C := RX12) (T := TX12) (N := 89) hx hb hg iX12 hown hK hW kd_66 rfl 8 (by decide) (hg (Cond.fieldLink RX12 202 "SlabWalkModel" "number" "I") m1322) (fun _ h9 => h9) rfl ((hq_204.i 66 8 (by decide) (by decide)).trans ((hq_195.i 66 8 (by decide) (by decide)).trans ((hq_36.i 66 8 (by decide) (by decide)).trans (hq_31.i 66 8 (by decide) (by decide))))) dX12_unit_165 ?_
                refine lv_goto (tgt := 172) hx hb dX12_unit_168 (by decide) ?_
                have g_209 : gM G_203 = gM G := gM_fr (rs := [75]) (fs := [(66, 2), (66, 3), (66, 4), (66, 6), (66, 7), (66, 8), (66, 9), (66, 20), (66, 21), (66, 23), (66, 24)]) (((((Fr.rf.call hq_4 (by decide) (by decide)).call hq_31 (by decide) (by decide)).call hq_36 (by decide) (by decide)).call hq_195 (by decide) (by decide)).call hq_204 (by decide) (by decide)) (by decide) (by decide)
                have qc_210 : (0 : Int32).toInt = 0 := rfl
                have g_211 : gC G_203 = gC G := gC_fr (rs := [75]) (fs := [(66, 2), (66, 3), (66, 4), (66, 6), (66, 7), (66, 8), (66, 9), (66, 20), (66, 21), (66, 23), (66, 24)]) (((((Fr.rf.call hq_4 (by decide) (by decide)).call hq_31 (by decide) (by decide)).call hq_36 (by decide) (by decide)).call hq_195 (by decide) (by decide)).call hq_204 (by decide) (by decide)) (by decide) (by decide)
                have g_212 : gD G_203 = gD G := gD_fr (rs := [75]) (fs := [(66, 2), (66, 3), (66, 4), (66, 6), (66, 7), (66, 8), (66, 9), (66, 20), (66, 21), (66, 23), (66, 24)]) (((((Fr.rf.call hq_4 (by decide) (by decide)).call hq_31 (by decide) (by decide)).call hq_36 (by decide) (by decide)).call hq_195 (by decide) (by decide)).call hq_204 (by decide) (by decide)) (by decide) (by decide)
                refine S_callv (va_runV (As := [.int 0, .int (G_3.1 66 8)]) (rest := []) ⟨hx, hb, hml, hown, hts⟩ (n_add l D k A a z G_203 0 (G_3.1 66 8) ⟨by decide, by decide⟩ (by omega)) (cwV 2 hts (gd_V hgd m1741 m1743 m76 m131 m1744) rfl rfl rfl (by decide +kernel) ⟨Nat.le_of_ble_eq_true rfl, Nat.le_of_ble_eq_true rfl⟩) (pre_V hW hB_G_203 hK hZ hS kd_66 rfl) rfl rfl hl.1 rfl (lv_room (Nat.le_of_ble_eq_true rfl)) dX12_unit_172 ⟨Nat.le_of_ble_eq_true rfl, Nat.le_of_ble_eq_true rfl⟩) hS (fun G_214 H locs hpo hW hS => ?_)
                have hX_217 : Q_add 0 (G_3.1 66 8) G_203 G_214 := hpo
                obtain ⟨hB_G_214, hq_215, hp_216, -⟩ := hpo
                have hF := hF.call hq_215 (by decide) (by decide)
                refine lv_aload_n hx hb dX12_unit_175 rfl (lv_at hl 1 rfl) ?_
                have g_218 : (G_214.1 66 4).toInt = (G_3.1 66 4).toInt := by rw [show G_214.1 66 4 = (G_3.1 66 4) from ((hq_215.i 66 4 (by decide) (by decide)).trans ((hq_204.i 66 4 (by decide) (by decide)).trans ((hq_195.i 66 4 (by decide) (by decide)).trans ((hq_36.i 66 4 (by decide) (by decide)).trans ((hq_31.i 66 4 (by decide) (by decide)).trans (rfl))))))]
                have g_219 : (G_214.1 66 6).toInt = (G_3.1 66 6).toInt := by rw [show G_214.1 66 6 = (G_3.1 66 6) from ((hq_215.i 66 6 (by decide) (by decide)).trans ((hq_204.i 66 6 (by decide) (by decide)).trans ((hq_195.i 66 6 (by decide) (by decide)).trans ((hq_36.i 66 6 (by decide) (by decide)).trans ((hq_31.i 66 6 (by decide) (by decide)).trans (rfl))))))]
                refine S_callv (va_runV (As := []) (rest := []) ⟨hx, hb, hml, hown, hts⟩ (n_token l D k A a z G_214  ) (cwV 0 hts (gd_V hgd m1602 m1604 m50 m131 m1605) rfl rfl rfl (by decide +kernel) ⟨Nat.le_of_ble_eq_true rfl, Nat.le_of_ble_eq_true rfl⟩) (pre_V hW hB_G_214 hK hZ hS kd_66 rfl) rfl rfl hl.1 rfl (lv_room (Nat.le_of_ble_eq_true rfl)) dX12_unit_176 ⟨Nat.le_of_ble_eq_true rfl, Nat.le_of_ble_eq_true rfl⟩) hS (fun G_221 H locs hpo hW hS => ?_)
                have hX_224 : Q_token G_214 G_221 := hpo
                obtain ⟨hB_G_221, hq_222, hp_223, -⟩ := hpo
                have hF := hF.call hq_222 (by decide) (by decide)
                have g_225 : gB G_221 = gB G_3 := gB_fr (rs := [69, 70, 71]) (fs := [(66, 2), (66, 3), (66, 4), (66, 6), (66, 7), (66, 8), (66, 9), (66, 21), (66, 23)]) ((((((Fr.rf.call hq_31 (by decide) (by decide)).call hq_36 (by decide) (by decide)).call hq_195 (by decide) (by decide)).call hq_204 (by decide) (by decide)).call hq_215 (by decide) (by decide)).call hq_222 (by decide) (by decide)) (by decide) (by decide)
                have g_226 : gC G_221 = gC G_214 := gC_fr (rs := []) (fs := [(66, 4), (66, 6), (66, 7), (66, 8), (66, 9)]) (Fr.rf.call hq_222 (by decide) (by decide)) (by decide) (by decide)
                have g_227 : gD G_221 = gD G_214 := gD_fr (rs := []) (fs := [(66, 4), (66, 6), (66, 7), (66, 8), (66, 9)]) (Fr.rf.call hq_222 (by decide) (by decide)) (by decide) (by decide)
                have g_228 : gM G_221 = gM G_214 := gM_fr (rs := []) (fs := [(66, 4), (66, 6), (66, 7), (66, 8), (66, 9)]) (Fr.rf.call hq_222 (by decide) (by decide)) (by decide) (by decide)
                have g_229 : (G_221.1 66 2).toInt = (G_194.1 66 2).toInt := by rw [show G_221.1 66 2 = (G_194.1 66 2) from ((hq_222.i 66 2 (by decide) (by decide)).trans ((hq_215.i 66 2 (by decide) (by decide)).trans ((hq_204.i 66 2 (by decide) (by decide)).trans (rfl))))]
                have g_230 : (G_221.1 66 20).toInt = (G_3.1 66 20).toInt := by rw [show G_221.1 66 20 = (G_3.1 66 20) from ((hq_222.i 66 20 (by decide) (by decide)).trans ((hq_215.i 66 20 (by decide) (by decide)).trans ((hq_204.i 66 20 (by decide) (by decide)).trans ((hq_195.i 66 20 (by decide) (by decide)).trans ((hq_36.i 66 20 (by decide) (by decide)).trans ((hq_31.i 66 20 (by decide) (by decide)).trans (rfl)))))))]
                have b_231 : 0 ≤ (G_203.1 66 23).toInt ∧ (G_203.1 66 23).toInt ≤ 40 := hB_G_203.i 66 23 rfl rfl
                have g_232 : (G_221.1 66 23).toInt = (G_203.1 66 23).toInt := by rw [show G_221.1 66 23 = (G_203.1 66 23) from ((hq_222.i 66 23 (by decide) (by decide)).trans (hq_215.i 66 23 (by decide) (by decide)))]
                have g_233 : (G_221.1 66 24).toInt = (G_3.1 66 24).toInt := by rw [show G_221.1 66 24 = (G_3.1 66 24) from ((hq_222.i 66 24 (by decide) (by decide)).trans ((hq_215.i 66 24 (by decide) (by decide)).trans ((hq_204.i 66 24 (by decide) (by decide)).trans ((hq_195.i 66 24 (by decide) (by decide)).trans ((hq_36.i 66 24 (by decide) (by decide)).trans ((hq_31.i 66 24 (by decide) (by decide)).trans (rfl)))))))]
                have b_234 : 0 ≤ (G_221.1 66 4).toInt ∧ (G_221.1 66 4).toInt ≤ 1600 := hB_G_221.i 66 4 rfl rfl
                exact W.vret hx hb hr (fun t ht _ => ⟨⟨G_221, rfl, (Q_unit_mk ⟨hB_G_221, hF, (by omega), ⟨x_7, G_3, hX_8, f_14, f_15, f_16, f_17, hB_G_3, hq_4, ⟨G_29, hX_32, hB_G_29, hq_31, (Or.inl ⟨c_33, ⟨r_34, G_35, hX_38, (Or.inr ⟨c_40, (Or.inl ⟨c_191, ⟨G_194, hX_197, (Or.inl ⟨c_199, ⟨G_203, hX_206, ⟨G_214, hX_217, ⟨G_221, hX_224, rfl⟩⟩⟩⟩)⟩⟩)⟩)⟩⟩)⟩⟩⟩), wd_t ht hW⟩, hS.F ht⟩) hS.2.2 dX12_unit_179
          · have c_199 : 0 < (G_194.1 66 2).toInt := xI_nle rfl rfl c_199
            have g_235 : gB G_194 = gB G_3 := gB_fr (rs := []) (fs := [(66, 2), (66, 3)]) (((Fr.rf.call hq_31 (by decide) (by decide)).call hq_36 (by decide) (by decide)).call hq_195 (by decide) (by decide)) (by decide) (by decide)
            have g_236 : gC G_194 = gC G := gC_fr (rs := [75]) (fs := [(66, 2), (66, 3), (66, 4), (66, 6), (66, 7), (66, 8), (66, 9), (66, 20), (66, 21), (66, 23), (66, 24)]) ((((Fr.rf.call hq_4 (by decide) (by decide)).call hq_31 (by decide) (by decide)).call hq_36 (by decide) (by decide)).call hq_195 (by decide) (by decide)) (by decide) (by decide)
            have g_237 : gD G_194 = gD G := gD_fr (rs := [75]) (fs := [(66, 2), (66, 3), (66, 4), (66, 6), (66, 7), (66, 8), (66, 9), (66, 20), (66, 21), (66, 23), (66, 24)]) ((((Fr.rf.call hq_4 (by decide) (by decide)).call hq_31 (by decide) (by decide)).call hq_36 (by decide) (by decide)).call hq_195 (by decide) (by decide)) (by decide) (by decide)
            have g_238 : gM G_194 = gM G := gM_fr (rs := [75]) (fs := [(66, 2), (66, 3), (66, 4), (66, 6), (66, 7), (66, 8), (66, 9), (66, 20), (66, 21), (66, 23), (66, 24)]) ((((Fr.rf.call hq_4 (by decide) (by decide)).call hq_31 (by decide) (by decide)).call hq_36 (by decide) (by decide)).call hq_195 (by decide) (by decide)) (by decide) (by decide)
            have g_239 : (G_194.1 66 20).toInt = (G_3.1 66 20).toInt := by rw [show G_194.1 66 20 = (G_3.1 66 20) from ((hq_195.i 66 20 (by decide) (by decide)).trans ((hq_36.i 66 20 (by decide) (by decide)).trans ((hq_31.i 66 20 (by decide) (by decide)).trans (rfl))))]
            have g_240 : (G_194.1 66 23).toInt = (G_3.1 66 23).toInt := by rw [show G_194.1 66 23 = (G_3.1 66 23) from ((hq_195.i 66 23 (by decide) (by decide)).trans ((hq_36.i 66 23 (by decide) (by decide)).trans ((hq_31.i 66 23 (by decide) (by decide)).trans (rfl))))]
            have g_241 : (G_194.1 66 24).toInt = (G_3.1 66 24).toInt := by rw [show G_194.1 66 24 = (G_3.1 66 24) from ((hq_195.i 66 24 (by decide) (by decide)).trans ((hq_36.i 66 24 (by decide) (by decide)).trans ((hq_31.i 66 24 (by decide) (by decide)).trans (rfl))))]
            have g_242 : (G_194.1 66 4).toInt = (G_3.1 66 4).toInt := by rw [show G_194.1 66 4 = (G_3.1 66 4) from ((hq_195.i 66 4 (by decide) (by decide)).trans ((hq_36.i 66 4 (by decide) (by decide)).trans ((hq_31.i 66 4 (by decide) (by decide)).trans (rfl))))]
            have g_243 : (G_194.1 66 6).toInt = (G_3.1 66 6).toInt := by rw [show G_194.1 66 6 = (G_3.1 66 6) from ((hq_195.i 66 6 (by decide) (by decide)).trans ((hq_36.i 66 6 (by decide) (by decide)).trans ((hq_31.i 66 6 (by decide) (by decide)).trans (rfl))))]
            exact W.vret hx hb hr (fun t ht _ => ⟨⟨G_194, rfl, (Q_unit_mk ⟨hB_G_194, hF, (by omega), ⟨x_7, G_3, hX_8, f_14, f_15, f_16, f_17, hB_G_3, hq_4, ⟨G_29, hX_32, hB_G_29, hq_31, (Or.inl ⟨c_33, ⟨r_34, G_35, hX_38, (Or.inr ⟨c_40, (Or.inl ⟨c_191, ⟨G_194, hX_197, (Or.inr ⟨c_199, rfl⟩)⟩⟩)⟩)⟩⟩)⟩⟩⟩), wd_t ht hW⟩, hS.F ht⟩) hS.2.2 dX12_unit_145
        · have c_191 : 0 ≤ r_34.toInt := xI_nlt rfl rfl c_191
          refine lv_aload_n hx hb dX12_unit_126 rfl (lv_at hl 1 rfl) ?_
          have g_244 : (G_35.1 66 23).toInt = (G_3.1 66 23).toInt := by rw [show G_35.1 66 23 = (G_3.1 66 23) from ((hq_36.i 66 23 (by decide) (by decide)).trans ((hq_31.i 66 23 (by decide) (by decide)).trans (rfl)))]
          refine S_calli (va_runV (As := []) (rest := []) ⟨hx, hb, hml, hown, hts⟩ (n_isFull l D k A a z G_35  ) (cwV 0 hts (gd_V hgd m1729 m1731 m73 m131 m1732) rfl rfl rfl (by decide +kernel) ⟨Nat.le_of_ble_eq_true rfl, Nat.le_of_ble_eq_true rfl⟩) (pre_V hW hB_G_35 hK hZ hS kd_66 rfl) rfl rfl hl.1 rfl (lv_room (Nat.le_of_ble_eq_true rfl)) dX12_unit_127 ⟨Nat.le_of_ble_eq_true rfl, Nat.le_of_ble_eq_true rfl⟩) hS (fun r_245 G_246 H locs hpo hW hS => ?_)
          have hX_249 : Q_isFull G_35 r_245 G_246 := hpo
          obtain ⟨hB_G_246, hq_247, f_250, hp_248, -⟩ := hpo
          have hF := hF.call hq_247 (by decide) (by decide)
          refine lv_if_eq (tgt := 138) hx hb dX12_unit_130 (by decide) (fun c_251 => ?_) (fun c_251 => ?_)
          · have c_251 : r_245.toInt = 0 := xI_eq rfl rfl c_251
            refine lv_aload_n hx hb dX12_unit_138 rfl (lv_at hl 1 rfl) ?_
            refine S_getI (v := (G_3.1 66 2)) (C := RX12) (T := TX12) (N := 89) hx hb hg iX12 hown hK hW kd_66 rfl 2 (by decide) (hg (Cond.fieldLink RX12 218 "SlabWalkModel" "fault" "I") m1316) (fun _ h9 => h9) rfl ((hq_247.i 66 2 (by decide) (by decide)).trans ((hq_36.i 66 2 (by decide) (by decide)).trans ((hq_31.i 66 2 (by decide) (by decide)).trans (rfl)))) dX12_unit_139 ?_
            refine lv_if_le (tgt := 146) hx hb dX12_unit_142 (by decide) (fun c_252 => ?_) (fun c_252 => ?_)
            · have c_252 : (G_3.1 66 2).toInt ≤ 0 := xI_le rfl rfl c_252
              refine lv_aload_n hx hb dX12_unit_146 rfl (lv_at hl 1 rfl) ?_
              have g_253 : (G_246.1 66 23).toInt = (G_3.1 66 23).toInt := by rw [show G_246.1 66 23 = (G_3.1 66 23) from ((hq_247.i 66 23 (by decide) (by decide)).trans ((hq_36.i 66 23 (by decide) (by decide)).trans ((hq_31.i 66 23 (by decide) (by decide)).trans (rfl))))]
              have g_254 : (G_246.1 66 23).toInt = (G_3.1 66 23).toInt := by rw [show G_246.1 66 23 = (G_3.1 66 23) from ((hq_247.i 66 23 (by decide) (by decide)).trans ((hq_36.i 66 23 (by decide) (by decide)).trans ((hq_31.i 66 23 (by decide) (by decide)).trans (rfl))))]
              refine S_callv (va_runV (As := []) (rest := []) ⟨hx, hb, hml, hown, hts⟩ (n_countUnit l D k A a z G_246  (by omega)) (cwV 0 hts (gd_V hgd m1733 m1735 m74 m131 m1736) rfl rfl rfl (by decide +kernel) ⟨Nat.le_of_ble_eq_true rfl, Nat.le_of_ble_eq_true rfl⟩) (pre_V hW hB_G_246 hK hZ hS kd_66 rfl) rfl rfl hl.1 rfl (lv_room (Nat.le_of_ble_eq_true rfl)) dX12_unit_147 ⟨Nat.le_of_ble_eq_true rfl, Nat.le_of_ble_eq_true rfl⟩) hS (fun G_256 H locs hpo hW hS => ?_)
              have hX_259 : Q_countUnit G_246 G_256 := hpo
              obtain ⟨hB_G_256, hq_257, hp_258, -⟩ := hpo
              have hF := hF.call hq_257 (by decide) (by decide)
              refine lv_aload_n hx hb dX12_unit_150 rfl (lv_at hl 1 rfl) ?_
              refine lv_iload_n hx hb dX12_unit_151 rfl (lv_at hl 0 rfl) ?_
              refine lv_if_ge (tgt := 159) hx hb dX12_unit_152 (by decide) (fun c_260 => ?_) (fun c_260 => ?_)
              · have c_260 : 0 ≤ r_34.toInt := xI_le rfl rfl c_260
                refine lv_iconst (v := 1) hx hb dX12_unit_159 (by decide) ?_
                refine lv_iload_n hx hb dX12_unit_160 rfl (lv_at hl 0 rfl) ?_
                refine lv_if_ge (tgt := 171) hx hb dX12_unit_161 (by decide) (fun c_261 => ?_) (fun c_261 => ?_)
                · have c_261 : 0 ≤ r_34.toInt := xI_le rfl rfl c_261
                  refine lv_iload_n hx hb dX12_unit_171 rfl (lv_at hl 0 rfl) ?_
                  have g_262 : gM G_256 = gM G := gM_fr (rs := [75]) (fs := [(66, 2), (66, 3), (66, 4), (66, 6), (66, 7), (66, 8), (66, 9), (66, 20), (66, 21), (66, 23), (66, 24)]) (((((Fr.rf.call hq_4 (by decide) (by decide)).call hq_31 (by decide) (by decide)).call hq_36 (by decide) (by decide)).call hq_247 (by decide) (by decide)).call hq_257 (by decide) (by decide)) (by decide) (by decide)
                  have qc_263 : (1 : Int32).toInt = 1 := rfl
                  have g_264 : gC G_256 = gC G := gC_fr (rs := [75]) (fs := [(66, 2), (66, 3), (66, 4), (66, 6), (66, 7), (66, 8), (66, 9), (66, 20), (66, 21), (66, 23), (66, 24)]) (((((Fr.rf.call hq_4 (by decide) (by decide)).call hq_31 (by decide) (by decide)).call hq_36 (by decide) (by decide)).call hq_247 (by decide) (by decide)).call hq_257 (by decide) (by decide)) (by decide) (by decide)
                  have g_265 : gD G_256 = gD G := gD_fr (rs := [75]) (fs := [(66, 2), (66, 3), (66, 4), (66, 6), (66, 7), (66, 8), (66, 9), (66, 20), (66, 21), (66, 23), (66, 24)]) (((((Fr.rf.call hq_4 (by decide) (by decide)).call hq_31 (by decide) (by decide)).call hq_36 (by decide) (by decide)).call hq_247 (by decide) (by decide)).call hq_257 (by decide) (by decide)) (by decide) (by decide)
                  refine S_callv (va_runV (As := [.int 1, .int r_34]) (rest := []) ⟨hx, hb, hml, hown, hts⟩ (n_add l D k A a z G_256 1 r_34 ⟨by decide, by decide⟩ (by omega)) (cwV 2 hts (gd_V hgd m1741 m1743 m76 m131 m1744) rfl rfl rfl (by decide +kernel) ⟨Nat.le_of_ble_eq_true rfl, Nat.le_of_ble_eq_true rfl⟩) (pre_V hW hB_G_256 hK hZ hS kd_66 rfl) rfl rfl hl.1 rfl (lv_room (Nat.le_of_ble_eq_true rfl)) dX12_unit_172 ⟨Nat.le_of_ble_eq_true rfl, Nat.le_of_ble_eq_true rfl⟩) hS (fun G_267 H locs hpo hW hS => ?_)
                  have hX_270 : Q_add 1 r_34 G_256 G_267 := hpo
                  obtain ⟨hB_G_267, hq_268, hp_269, -⟩ := hpo
                  have hF := hF.call hq_268 (by decide) (by decide)
                  refine lv_aload_n hx hb dX12_unit_175 rfl (lv_at hl 1 rfl) ?_
                  have g_271 : (G_267.1 66 4).toInt = (G_3.1 66 4).toInt := by rw [show G_267.1 66 4 = (G_3.1 66 4) from ((hq_268.i 66 4 (by decide) (by decide)).trans ((hq_257.i 66 4 (by decide) (by decide)).trans ((hq_247.i 66 4 (by decide) (by decide)).trans ((hq_36.i 66 4 (by decide) (by decide)).trans ((hq_31.i 66 4 (by decide) (by decide)).trans (rfl))))))]
                  have g_272 : (G_267.1 66 6).toInt = (G_3.1 66 6).toInt := by rw [show G_267.1 66 6 = (G_3.1 66 6) from ((hq_268.i 66 6 (by decide) (by decide)).trans ((hq_257.i 66 6 (by decide) (by decide)).trans ((hq_247.i 66 6 (by decide) (by decide)).trans ((hq_36.i 66 6 (by decide) (by decide)).trans ((hq_31.i 66 6 (by decide) (by decide)).trans (rfl))))))]
                  refine S_callv (va_runV (As := []) (rest := []) ⟨hx, hb, hml, hown, hts⟩ (n_token l D k A a z G_267  ) (cwV 0 hts (gd_V hgd m1602 m1604 m50 m131 m1605) rfl rfl rfl (by decide +kernel) ⟨Nat.le_of_ble_eq_true rfl, Nat.le_of_ble_eq_true rfl⟩) (pre_V hW hB_G_267 hK hZ hS kd_66 rfl) rfl rfl hl.1 rfl (lv_room (Nat.le_of_ble_eq_true rfl)) dX12_unit_176 ⟨Nat.le_of_ble_eq_true rfl, Nat.le_of_ble_eq_true rfl⟩) hS (fun G_274 H locs hpo hW hS => ?_)
                  have hX_277 : Q_token G_267 G_274 := hpo
                  obtain ⟨hB_G_274, hq_275, hp_276, -⟩ := hpo
                  have hF := hF.call hq_275 (by decide) (by decide)
                  have g_278 : gB G_274 = gB G_3 := gB_fr (rs := [69, 70, 71]) (fs := [(66, 4), (66, 6), (66, 7), (66, 8), (66, 9), (66, 21), (66, 23)]) ((((((Fr.rf.call hq_31 (by decide) (by decide)).call hq_36 (by decide) (by decide)).call hq_247 (by decide) (by decide)).call hq_257 (by decide) (by decide)).call hq_268 (by decide) (by decide)).call hq_275 (by decide) (by decide)) (by decide) (by decide)
                  have g_279 : gC G_274 = gC G_267 := gC_fr (rs := []) (fs := [(66, 4), (66, 6), (66, 7), (66, 8), (66, 9)]) (Fr.rf.call hq_275 (by decide) (by decide)) (by decide) (by decide)
                  have g_280 : gD G_274 = gD G_267 := gD_fr (rs := []) (fs := [(66, 4), (66, 6), (66, 7), (66, 8), (66, 9)]) (Fr.rf.call hq_275 (by decide) (by decide)) (by decide) (by decide)
                  have g_281 : gM G_274 = gM G_267 := gM_fr (rs := []) (fs := [(66, 4), (66, 6), (66, 7), (66, 8), (66, 9)]) (Fr.rf.call hq_275 (by decide) (by decide)) (by decide) (by decide)
                  have g_282 : (G_274.1 66 2).toInt = (G_3.1 66 2).toInt := by rw [show G_274.1 66 2 = (G_3.1 66 2) from ((hq_275.i 66 2 (by decide) (by decide)).trans ((hq_268.i 66 2 (by decide) (by decide)).trans ((hq_257.i 66 2 (by decide) (by decide)).trans ((hq_247.i 66 2 (by decide) (by decide)).trans ((hq_36.i 66 2 (by decide) (by decide)).trans ((hq_31.i 66 2 (by decide) (by decide)).trans (rfl)))))))]
                  have g_283 : (G_274.1 66 20).toInt = (G_3.1 66 20).toInt := by rw [show G_274.1 66 20 = (G_3.1 66 20) from ((hq_275.i 66 20 (by decide) (by decide)).trans ((hq_268.i 66 20 (by decide) (by decide)).trans ((hq_257.i 66 20 (by decide) (by decide)).trans ((hq_247.i 66 20 (by decide) (by decide)).trans ((hq_36.i 66 20 (by decide) (by decide)).trans ((hq_31.i 66 20 (by decide) (by decide)).trans (rfl)))))))]
                  have b_284 : 0 ≤ (G_256.1 66 23).toInt ∧ (G_256.1 66 23).toInt ≤ 40 := hB_G_256.i 66 23 rfl rfl
                  have g_285 : (G_274.1 66 23).toInt = (G_256.1 66 23).toInt := by rw [show G_274.1 66 23 = (G_256.1 66 23) from ((hq_275.i 66 23 (by decide) (by decide)).trans (hq_268.i 66 23 (by decide) (by decide)))]
                  have g_286 : (G_274.1 66 24).toInt = (G_3.1 66 24).toInt := by rw [show G_274.1 66 24 = (G_3.1 66 24) from ((hq_275.i 66 24 (by decide) (by decide)).trans ((hq_268.i 66 24 (by decide) (by decide)).trans ((hq_257.i 66 24 (by decide) (by decide)).trans ((hq_247.i 66 24 (by decide) (by decide)).trans ((hq_36.i 66 24 (by decide) (by decide)).trans ((hq_31.i 66 24 (by decide) (by decide)).trans (rfl)))))))]
                  have b_287 : 0 ≤ (G_274.1 66 4).toInt ∧ (G_274.1 66 4).toInt ≤ 1600 := hB_G_274.i 66 4 rfl rfl
                  exact W.vret hx hb hr (fun t ht _ => ⟨⟨G_274, rfl, (Q_unit_mk ⟨hB_G_274, hF, (by omega), ⟨x_7, G_3, hX_8, f_14, f_15, f_16, f_17, hB_G_3, hq_4, ⟨G_29, hX_32, hB_G_29, hq_31, (Or.inl ⟨c_33, ⟨r_34, G_35, hX_38, (Or.inr ⟨c_40, (Or.inr ⟨c_191, ⟨r_245, G_246, hX_249, (Or.inl ⟨c_251, ⟨G_256, hX_259, ⟨G_267, hX_270, ⟨G_274, hX_277, rfl⟩⟩⟩⟩)⟩⟩)⟩)⟩⟩)⟩⟩⟩), wd_t ht hW⟩, hS.F ht⟩) hS.2.2 dX12_unit_179
                · have c_261 : r_34.toInt < 0 := xI_nle rfl rfl c_261
                  exfalso; omega
              · have c_260 : r_34.toInt < 0 := xI_nle rfl rfl c_260
                exfalso; omega
            · have c_252 : 0 < (G_3.1 66 2).toInt := xI_nle rfl rfl c_252
              exfalso; omega
          · have c_251 : r_245.toInt ≠ 0 := xI_ne rfl rfl c_251
            refine lv_aload_n hx hb dX12_unit_133 rfl (lv_at hl 1 rfl) ?_
            refine lv_iconst (v := 2) hx hb dX12_unit_134 (by decide) ?_
            have qc_288 : (2 : Int32).toInt = 2 := rfl
            refine S_callv (va_runV (As := [.int 2]) (rest := []) ⟨hx, hb, hml, hown, hts⟩ (n_wrong l D k A a z G_246 2 ⟨by decide, by decide⟩) (cwV 1 hts (gd_V hgd m1670 m1672 m59 m131 m1673) rfl rfl rfl (by decide +kernel) ⟨Nat.le_of_ble_eq_true rfl, Nat.le_of_ble_eq_true rfl⟩) (pre_V hW hB_G_246 hK hZ hS kd_66 rfl) rfl rfl hl.1 rfl (lv_room (Nat.le_of_ble_eq_true rfl)) dX12_unit_135 ⟨Nat.le_of_ble_eq_true rfl, Nat.le_of_ble_eq_true rfl⟩) hS (fun G_290 H locs hpo hW hS => ?_)
            have hX_293 : Q_wrong 2 G_246 G_290 := hpo
            obtain ⟨hB_G_290, hq_291, hp_292, -⟩ := hpo
            have hF := hF.call hq_291 (by decide) (by decide)
            refine lv_aload_n hx hb dX12_unit_138 rfl (lv_at hl 1 rfl) ?_
            have b_294 : 0 ≤ (G_290.1 66 2).toInt ∧ (G_290.1 66 2).toInt ≤ 4 := hB_G_290.i 66 2 rfl rfl
            refine S_getI (v := (G_290.1 66 2)) (C := RX12) (T := TX12) (N := 89) hx hb hg iX12 hown hK hW kd_66 rfl 2 (by decide) (hg (Cond.fieldLink RX12 218 "SlabWalkModel" "fault" "I") m1316) (fun _ h9 => h9) rfl rfl dX12_unit_139 ?_
            refine lv_if_le (tgt := 146) hx hb dX12_unit_142 (by decide) (fun c_295 => ?_) (fun c_295 => ?_)
            · have c_295 : (G_290.1 66 2).toInt ≤ 0 := xI_le rfl rfl c_295
              refine lv_aload_n hx hb dX12_unit_146 rfl (lv_at hl 1 rfl) ?_
              have g_296 : (G_290.1 66 23).toInt = (G_3.1 66 23).toInt := by rw [show G_290.1 66 23 = (G_3.1 66 23) from ((hq_291.i 66 23 (by decide) (by decide)).trans ((hq_247.i 66 23 (by decide) (by decide)).trans ((hq_36.i 66 23 (by decide) (by decide)).trans ((hq_31.i 66 23 (by decide) (by decide)).trans (rfl)))))]
              have g_297 : (G_290.1 66 23).toInt = (G_3.1 66 23).toInt := by rw [show G_290.1 66 23 = (G_3.1 66 23) from ((hq_291.i 66 23 (by decide) (by decide)).trans ((hq_247.i 66 23 (by decide) (by decide)).trans ((hq_36.i 66 23 (by decide) (by decide)).trans ((hq_31.i 66 23 (by decide) (by decide)).trans (rfl)))))]
              refine S_callv (va_runV (As := []) (rest := []) ⟨hx, hb, hml, hown, hts⟩ (n_countUnit l D k A a z G_290  (by omega)) (cwV 0 hts (gd_V hgd m1733 m1735 m74 m131 m1736) rfl rfl rfl (by decide +kernel) ⟨Nat.le_of_ble_eq_true rfl, Nat.le_of_ble_eq_true rfl⟩) (pre_V hW hB_G_290 hK hZ hS kd_66 rfl) rfl rfl hl.1 rfl (lv_room (Nat.le_of_ble_eq_true rfl)) dX12_unit_147 ⟨Nat.le_of_ble_eq_true rfl, Nat.le_of_ble_eq_true rfl⟩) hS (fun G_299 H locs hpo hW hS => ?_)
              have hX_302 : Q_countUnit G_290 G_299 := hpo
              obtain ⟨hB_G_299, hq_300, hp_301, -⟩ := hpo
              have hF := hF.call hq_300 (by decide) (by decide)
              refine lv_aload_n hx hb dX12_unit_150 rfl (lv_at hl 1 rfl) ?_
              refine lv_iload_n hx hb dX12_unit_151 rfl (lv_at hl 0 rfl) ?_
              refine lv_if_ge (tgt := 159) hx hb dX12_unit_152 (by decide) (fun c_303 => ?_) (fun c_303 => ?_)
              · have c_303 : 0 ≤ r_34.toInt := xI_le rfl rfl c_303
                refine lv_iconst (v := 1) hx hb dX12_unit_159 (by decide) ?_
                refine lv_iload_n hx hb dX12_unit_160 rfl (lv_at hl 0 rfl) ?_
                refine lv_if_ge (tgt := 171) hx hb dX12_unit_161 (by decide) (fun c_304 => ?_) (fun c_304 => ?_)
                · have c_304 : 0 ≤ r_34.toInt := xI_le rfl rfl c_304
                  refine lv_iload_n hx hb dX12_unit_171 rfl (lv_at hl 0 rfl) ?_
                  have g_305 : gM G_299 = gM G := gM_fr (rs := [75]) (fs := [(66, 2), (66, 3), (66, 4), (66, 6), (66, 7), (66, 8), (66, 9), (66, 20), (66, 21), (66, 23), (66, 24)]) ((((((Fr.rf.call hq_4 (by decide) (by decide)).call hq_31 (by decide) (by decide)).call hq_36 (by decide) (by decide)).call hq_247 (by decide) (by decide)).call hq_291 (by decide) (by decide)).call hq_300 (by decide) (by decide)) (by decide) (by decide)
                  have qc_306 : (1 : Int32).toInt = 1 := rfl
                  have g_307 : gC G_299 = gC G := gC_fr (rs := [75]) (fs := [(66, 2), (66, 3), (66, 4), (66, 6), (66, 7), (66, 8), (66, 9), (66, 20), (66, 21), (66, 23), (66, 24)]) ((((((Fr.rf.call hq_4 (by decide) (by decide)).call hq_31 (by decide) (by decide)).call hq_36 (by decide) (by decide)).call hq_247 (by decide) (by decide)).call hq_291 (by decide) (by decide)).call hq_300 (by decide) (by decide)) (by decide) (by decide)
                  have g_308 : gD G_299 = gD G := gD_fr (rs := [75]) (fs := [(66, 2), (66, 3), (66, 4), (66, 6), (66, 7), (66, 8), (66, 9), (66, 20), (66, 21), (66, 23), (66, 24)]) ((((((Fr.rf.call hq_4 (by decide) (by decide)).call hq_31 (by decide) (by decide)).call hq_36 (by decide) (by decide)).call hq_247 (by decide) (by decide)).call hq_291 (by decide) (by decide)).call hq_300 (by decide) (by decide)) (by decide) (by decide)
                  refine S_callv (va_runV (As := [.int 1, .int r_34]) (rest := []) ⟨hx, hb, hml, hown, hts⟩ (n_add l D k A a z G_299 1 r_34 ⟨by decide, by decide⟩ (by omega)) (cwV 2 hts (gd_V hgd m1741 m1743 m76 m131 m1744) rfl rfl rfl (by decide +kernel) ⟨Nat.le_of_ble_eq_true rfl, Nat.le_of_ble_eq_true rfl⟩) (pre_V hW hB_G_299 hK hZ hS kd_66 rfl) rfl rfl hl.1 rfl (lv_room (Nat.le_of_ble_eq_true rfl)) dX12_unit_172 ⟨Nat.le_of_ble_eq_true rfl, Nat.le_of_ble_eq_true rfl⟩) hS (fun G_310 H locs hpo hW hS => ?_)
                  have hX_313 : Q_add 1 r_34 G_299 G_310 := hpo
                  obtain ⟨hB_G_310, hq_311, hp_312, -⟩ := hpo
                  have hF := hF.call hq_311 (by decide) (by decide)
                  refine lv_aload_n hx hb dX12_unit_175 rfl (lv_at hl 1 rfl) ?_
                  have g_314 : (G_310.1 66 4).toInt = (G_3.1 66 4).toInt := by rw [show G_310.1 66 4 = (G_3.1 66 4) from ((hq_311.i 66 4 (by decide) (by decide)).trans ((hq_300.i 66 4 (by decide) (by decide)).trans ((hq_291.i 66 4 (by decide) (by decide)).trans ((hq_247.i 66 4 (by decide) (by decide)).trans ((hq_36.i 66 4 (by decide) (by decide)).trans ((hq_31.i 66 4 (by decide) (by decide)).trans (rfl)))))))]
                  have g_315 : (G_310.1 66 6).toInt = (G_3.1 66 6).toInt := by rw [show G_310.1 66 6 = (G_3.1 66 6) from ((hq_311.i 66 6 (by decide) (by decide)).trans ((hq_300.i 66 6 (by decide) (by decide)).trans ((hq_291.i 66 6 (by decide) (by decide)).trans ((hq_247.i 66 6 (by decide) (by decide)).trans ((hq_36.i 66 6 (by decide) (by decide)).trans ((hq_31.i 66 6 (by decide) (by decide)).trans (rfl)))))))]
                  refine S_callv (va_runV (As := []) (rest := []) ⟨hx, hb, hml, hown, hts⟩ (n_token l D k A a z G_310  ) (cwV 0 hts (gd_V hgd m1602 m1604 m50 m131 m1605) rfl rfl rfl (by decide +kernel) ⟨Nat.le_of_ble_eq_true rfl, Nat.le_of_ble_eq_true rfl⟩) (pre_V hW hB_G_310 hK hZ hS kd_66 rfl) rfl rfl hl.1 rfl (lv_room (Nat.le_of_ble_eq_true rfl)) dX12_unit_176 ⟨Nat.le_of_ble_eq_true rfl, Nat.le_of_ble_eq_true rfl⟩) hS (fun G_317 H locs hpo hW hS => ?_)
                  have hX_320 : Q_token G_310 G_317 := hpo
                  obtain ⟨hB_G_317, hq_318, hp_319, -⟩ := hpo
                  have hF := hF.call hq_318 (by decide) (by decide)
                  have g_321 : gB G_317 = gB G_3 := gB_fr (rs := [69, 70, 71]) (fs := [(66, 2), (66, 3), (66, 4), (66, 6), (66, 7), (66, 8), (66, 9), (66, 21), (66, 23)]) (((((((Fr.rf.call hq_31 (by decide) (by decide)).call hq_36 (by decide) (by decide)).call hq_247 (by decide) (by decide)).call hq_291 (by decide) (by decide)).call hq_300 (by decide) (by decide)).call hq_311 (by decide) (by decide)).call hq_318 (by decide) (by decide)) (by decide) (by decide)
                  have g_322 : gC G_317 = gC G_310 := gC_fr (rs := []) (fs := [(66, 4), (66, 6), (66, 7), (66, 8), (66, 9)]) (Fr.rf.call hq_318 (by decide) (by decide)) (by decide) (by decide)
                  have g_323 : gD G_317 = gD G_310 := gD_fr (rs := []) (fs := [(66, 4), (66, 6), (66, 7), (66, 8), (66, 9)]) (Fr.rf.call hq_318 (by decide) (by decide)) (by decide) (by decide)
                  have g_324 : gM G_317 = gM G_310 := gM_fr (rs := []) (fs := [(66, 4), (66, 6), (66, 7), (66, 8), (66, 9)]) (Fr.rf.call hq_318 (by decide) (by decide)) (by decide) (by decide)
                  have g_325 : (G_317.1 66 2).toInt = (G_290.1 66 2).toInt := by rw [show G_317.1 66 2 = (G_290.1 66 2) from ((hq_318.i 66 2 (by decide) (by decide)).trans ((hq_311.i 66 2 (by decide) (by decide)).trans ((hq_300.i 66 2 (by decide) (by decide)).trans (rfl))))]
                  have g_326 : (G_317.1 66 20).toInt = (G_3.1 66 20).toInt := by rw [show G_317.1 66 20 = (G_3.1 66 20) from ((hq_318.i 66 20 (by decide) (by decide)).trans ((hq_311.i 66 20 (by decide) (by decide)).trans ((hq_300.i 66 20 (by decide) (by decide)).trans ((hq_291.i 66 20 (by decide) (by decide)).trans ((hq_247.i 66 20 (by decide) (by decide)).trans ((hq_36.i 66 20 (by decide) (by decide)).trans ((hq_31.i 66 20 (by decide) (by decide)).trans (rfl))))))))]
                  have b_327 : 0 ≤ (G_299.1 66 23).toInt ∧ (G_299.1 66 23).toInt ≤ 40 := hB_G_299.i 66 23 rfl rfl
                  have g_328 : (G_317.1 66 23).toInt = (G_299.1 66 23).toInt := by rw [show G_317.1 66 23 = (G_299.1 66 23) from ((hq_318.i 66 23 (by decide) (by decide)).trans (hq_311.i 66 23 (by decide) (by decide)))]
                  have g_329 : (G_317.1 66 24).toInt = (G_3.1 66 24).toInt := by rw [show G_317.1 66 24 = (G_3.1 66 24) from ((hq_318.i 66 24 (by decide) (by decide)).trans ((hq_311.i 66 24 (by decide) (by decide)).trans ((hq_300.i 66 24 (by decide) (by decide)).trans ((hq_291.i 66 24 (by decide) (by decide)).trans ((hq_247.i 66 24 (by decide) (by decide)).trans ((hq_36.i 66 24 (by decide) (by decide)).trans ((hq_31.i 66 24 (by decide) (by decide)).trans (rfl))))))))]
                  have b_330 : 0 ≤ (G_317.1 66 4).toInt ∧ (G_317.1 66 4).toInt ≤ 1600 := hB_G_317.i 66 4 rfl rfl
                  exact W.vret hx hb hr (fun t ht _ => ⟨⟨G_317, rfl, (Q_unit_mk ⟨hB_G_317, hF, (by omega), ⟨x_7, G_3, hX_8, f_14, f_15, f_16, f_17, hB_G_3, hq_4, ⟨G_29, hX_32, hB_G_29, hq_31, (Or.inl ⟨c_33, ⟨r_34, G_35, hX_38, (Or.inr ⟨c_40, (Or.inr ⟨c_191, ⟨r_245, G_246, hX_249, (Or.inr ⟨c_251, ⟨G_290, hX_293, (Or.inl ⟨c_295, ⟨G_299, hX_302, ⟨G_310, hX_313, ⟨G_317, hX_320, rfl⟩⟩⟩⟩)⟩⟩)⟩⟩)⟩)⟩⟩)⟩⟩⟩), wd_t ht hW⟩, hS.F ht⟩) hS.2.2 dX12_unit_179
                · have c_304 : r_34.toInt < 0 := xI_nle rfl rfl c_304
                  exfalso; omega
              · have c_303 : r_34.toInt < 0 := xI_nle rfl rfl c_303
                exfalso; omega
            · have c_295 : 0 < (G_290.1 66 2).toInt := xI_nle rfl rfl c_295
              have g_331 : gB G_290 = gB G_3 := gB_fr (rs := []) (fs := [(66, 2), (66, 3)]) ((((Fr.rf.call hq_31 (by decide) (by decide)).call hq_36 (by decide) (by decide)).call hq_247 (by decide) (by decide)).call hq_291 (by decide) (by decide)) (by decide) (by decide)
              have g_332 : gC G_290 = gC G := gC_fr (rs := [75]) (fs := [(66, 2), (66, 3), (66, 4), (66, 6), (66, 7), (66, 8), (66, 9), (66, 20), (66, 21), (66, 23), (66, 24)]) (((((Fr.rf.call hq_4 (by decide) (by decide)).call hq_31 (by decide) (by decide)).call hq_36 (by decide) (by decide)).call hq_247 (by decide) (by decide)).call hq_291 (by decide) (by decide)) (by decide) (by decide)
              have g_333 : gD G_290 = gD G := gD_fr (rs := [75]) (fs := [(66, 2), (66, 3), (66, 4), (66, 6), (66, 7), (66, 8), (66, 9), (66, 20), (66, 21), (66, 23), (66, 24)]) (((((Fr.rf.call hq_4 (by decide) (by decide)).call hq_31 (by decide) (by decide)).call hq_36 (by decide) (by decide)).call hq_247 (by decide) (by decide)).call hq_291 (by decide) (by decide)) (by decide) (by decide)
              have g_334 : gM G_290 = gM G := gM_fr (rs := [75]) (fs := [(66, 2), (66, 3), (66, 4), (66, 6), (66, 7), (66, 8), (66, 9), (66, 20), (66, 21), (66, 23), (66, 24)]) (((((Fr.rf.call hq_4 (by decide) (by decide)).call hq_31 (by decide) (by decide)).call hq_36 (by decide) (by decide)).call hq_247 (by decide) (by decide)).call hq_291 (by decide) (by decide)) (by decide) (by decide)
              have g_335 : (G_290.1 66 20).toInt = (G_3.1 66 20).toInt := by rw [show G_290.1 66 20 = (G_3.1 66 20) from ((hq_291.i 66 20 (by decide) (by decide)).trans ((hq_247.i 66 20 (by decide) (by decide)).trans ((hq_36.i 66 20 (by decide) (by decide)).trans ((hq_31.i 66 20 (by decide) (by decide)).trans (rfl)))))]
              have g_336 : (G_290.1 66 23).toInt = (G_3.1 66 23).toInt := by rw [show G_290.1 66 23 = (G_3.1 66 23) from ((hq_291.i 66 23 (by decide) (by decide)).trans ((hq_247.i 66 23 (by decide) (by decide)).trans ((hq_36.i 66 23 (by decide) (by decide)).trans ((hq_31.i 66 23 (by decide) (by decide)).trans (rfl)))))]
              have g_337 : (G_290.1 66 24).toInt = (G_3.1 66 24).toInt := by rw [show G_290.1 66 24 = (G_3.1 66 24) from ((hq_291.i 66 24 (by decide) (by decide)).trans ((hq_247.i 66 24 (by decide) (by decide)).trans ((hq_36.i 66 24 (by decide) (by decide)).trans ((hq_31.i 66 24 (by decide) (by decide)).trans (rfl)))))]
              have g_338 : (G_290.1 66 4).toInt = (G_3.1 66 4).toInt := by rw [show G_290.1 66 4 = (G_3.1 66 4) from ((hq_291.i 66 4 (by decide) (by decide)).trans ((hq_247.i 66 4 (by decide) (by decide)).trans ((hq_36.i 66 4 (by decide) (by decide)).trans ((hq_31.i 66 4 (by decide) (by decide)).trans (rfl)))))]
              have g_339 : (G_290.1 66 6).toInt = (G_3.1 66 6).toInt := by rw [show G_290.1 66 6 = (G_3.1 66 6) from ((hq_291.i 66 6 (by decide) (by decide)).trans ((hq_247.i 66 6 (by decide) (by decide)).trans ((hq_36.i 66 6 (by decide) (by decide)).trans ((hq_31.i 66 6 (by decide) (by decide)).trans (rfl)))))]
              exact W.vret hx hb hr (fun t ht _ => ⟨⟨G_290, rfl, (Q_unit_mk ⟨hB_G_290, hF, (by omega), ⟨x_7, G_3, hX_8, f_14, f_15, f_16, f_17, hB_G_3, hq_4, ⟨G_29, hX_32, hB_G_29, hq_31, (Or.inl ⟨c_33, ⟨r_34, G_35, hX_38, (Or.inr ⟨c_40, (Or.inr ⟨c_191, ⟨r_245, G_246, hX_249, (Or.inr ⟨c_251, ⟨G_290, hX_293, (Or.inr ⟨c_295, rfl⟩)⟩⟩)⟩⟩)⟩)⟩⟩)⟩⟩⟩), wd_t ht hW⟩, hS.F ht⟩) hS.2.2 dX12_unit_145
    · have c_33 : 0 < (G_3.1 66 2).toInt := xI_nle rfl rfl c_33
      have g_340 : gB G_29 = gB G_3 := gB_fr (rs := []) (fs := []) (Fr.rf.call hq_31 (by decide) (by decide)) (by decide) (by decide)
      have g_341 : gC G_29 = gC G := gC_fr (rs := [75]) (fs := [(66, 2), (66, 3), (66, 4), (66, 6), (66, 7), (66, 8), (66, 9), (66, 20), (66, 21), (66, 23), (66, 24)]) ((Fr.rf.call hq_4 (by decide) (by decide)).call hq_31 (by decide) (by decide)) (by decide) (by decide)
      have g_342 : gD G_29 = gD G := gD_fr (rs := [75]) (fs := [(66, 2), (66, 3), (66, 4), (66, 6), (66, 7), (66, 8), (66, 9), (66, 20), (66, 21), (66, 23), (66, 24)]) ((Fr.rf.call hq_4 (by decide) (by decide)).call hq_31 (by decide) (by decide)) (by decide) (by decide)
      have g_343 : gM G_29 = gM G := gM_fr (rs := [75]) (fs := [(66, 2), (66, 3), (66, 4), (66, 6), (66, 7), (66, 8), (66, 9), (66, 20), (66, 21), (66, 23), (66, 24)]) ((Fr.rf.call hq_4 (by decide) (by decide)).call hq_31 (by decide) (by decide)) (by decide) (by decide)
      have g_344 : (G_29.1 66 2).toInt = (G_3.1 66 2).toInt := by rw [show G_29.1 66 2 = (G_3.1 66 2) from ((hq_31.i 66 2 (by decide) (by decide)).trans (rfl))]
      have g_345 : (G_29.1 66 20).toInt = (G_3.1 66 20).toInt := by rw [show G_29.1 66 20 = (G_3.1 66 20) from ((hq_31.i 66 20 (by decide) (by decide)).trans (rfl))]
      have g_346 : (G_29.1 66 23).toInt = (G_3.1 66 23).toInt := by rw [show G_29.1 66 23 = (G_3.1 66 23) from ((hq_31.i 66 23 (by decide) (by decide)).trans (rfl))]
      have g_347 : (G_29.1 66 24).toInt = (G_3.1 66 24).toInt := by rw [show G_29.1 66 24 = (G_3.1 66 24) from ((hq_31.i 66 24 (by decide) (by decide)).trans (rfl))]
      have g_348 : (G_29.1 66 4).toInt = (G_3.1 66 4).toInt := by rw [show G_29.1 66 4 = (G_3.1 66 4) from ((hq_31.i 66 4 (by decide) (by decide)).trans (rfl))]
      have g_349 : (G_29.1 66 6).toInt = (G_3.1 66 6).toInt := by rw [show G_29.1 66 6 = (G_3.1 66 6) from ((hq_31.i 66 6 (by decide) (by decide)).trans (rfl))]
      exact W.vret hx hb hr (fun t ht _ => ⟨⟨G_29, rfl, (Q_unit_mk ⟨hB_G_29, hF, (by omega), ⟨x_7, G_3, hX_8, f_14, f_15, f_16, f_17, hB_G_3, hq_4, ⟨G_29, hX_32, hB_G_29, hq_31, (Or.inr ⟨c_33, rfl⟩)⟩⟩⟩), wd_t ht hW⟩, hS.F ht⟩) hS.2.2 dX12_unit_108
  refine lv_if_eq (tgt := 101) hx hb dX12_unit_3 (by decide) (fun c_350 => ?_) (fun c_350 => ?_)
  · have c_350 : x_7.toInt = 0 := xI_eq rfl rfl c_350
    exact hJ_30 () _ _ _ ⟨G_3, (Jn_n_unit_2_mk (Or.inl ⟨c_350, rfl⟩)), hW, hB_G_3, hF, Fr.rf, hS, lv_sub hl [1] rfl⟩
  · have c_350 : x_7.toInt ≠ 0 := xI_ne rfl rfl c_350
    refine lv_aload_n hx hb dX12_unit_6 rfl (lv_at hl 1 rfl) ?_
    refine S_getI (v := (G_3.1 66 2)) (C := RX12) (T := TX12) (N := 89) hx hb hg iX12 hown hK hW kd_66 rfl 2 (by decide) (hg (Cond.fieldLink RX12 218 "SlabWalkModel" "fault" "I") m1316) (fun _ h9 => h9) rfl rfl dX12_unit_7 ?_
    refine lv_if_ne (tgt := 101) hx hb dX12_unit_10 (by decide) (fun c_351 => ?_) (fun c_351 => ?_)
    · have c_351 : (G_3.1 66 2).toInt ≠ 0 := xI_ne rfl rfl c_351
      exact hJ_30 () _ _ _ ⟨G_3, (Jn_n_unit_2_mk (Or.inr ⟨c_350, ⟨c_351, rfl⟩⟩)), hW, hB_G_3, hF, Fr.rf, hS, lv_sub hl [1] rfl⟩
    · have c_351 : (G_3.1 66 2).toInt = 0 := xI_eq rfl rfl c_351
      refine lv_aload_n hx hb dX12_unit_13 rfl (lv_at hl 1 rfl) ?_
      refine lv_ldc2 (v := 7237492) hx hb hown (hg (Cond.constantLong RX12 261 7237492) m1669) dX12_unit_14 ?_
      refine S_calli (va_runV (As := [.long 7237492]) (rest := []) ⟨hx, hb, hml, hown, hts⟩ (n_isWord l D k A a z G_3 7237492 ) (cwV 1 hts (gd_V hgd m1624 m1626 m53 m131 m1627) rfl rfl rfl (by decide +kernel) ⟨Nat.le_of_ble_eq_true rfl, Nat.le_of_ble_eq_true rfl⟩) (pre_V hW hB_G_3 hK hZ hS kd_66 rfl) rfl rfl hl.1 rfl (lv_room (Nat.le_of_ble_eq_true rfl)) dX12_unit_17 ⟨Nat.le_of_ble_eq_true rfl, Nat.le_of_ble_eq_true rfl⟩) hS (fun r_352 G_353 H locs hpo hW hS => ?_)
      have hX_356 : Q_isWord 7237492 G_3 r_352 G_353 := hpo
      obtain ⟨hB_G_353, hq_354, f_357, hp_355, -⟩ := hpo
      have hF := hF.call hq_354 (by decide) (by decide)
      refine W.cut (σ := Unit) (pcJ := 53) (J := fun y H locs ls => ∃ (G_360 : GS), Jn_n_unit_3 r_352 G_353 G_360 ∧ Wd D k A a G_360 H ∧ Bd G_360 ∧ Fr [69, 70, 71, 75] [(66, 2), (66, 3), (66, 4), (66, 6), (66, 7), (66, 8), (66, 9), (66, 20), (66, 21), (66, 23), (66, 24)] G G_360 ∧ Fr [] [] G_353 G_360 ∧ va_S A s.heap H locs ∧ lv_has ls 3 [(1, .int x_7), (0, .ref (a 66))]) (stJ := fun _ => []) ?_ (fun hJ_361 => ?_)
      · intro y H locs ls hI
        obtain ⟨G_360, hX_363, hW, hB_G_360, hF, hq_362, hS, hl⟩ := hI
        refine lv_aload_n hx hb dX12_unit_53 rfl (lv_at hl 1 rfl) ?_
        refine S_getI (v := (G_3.1 66 6)) (C := RX12) (T := TX12) (N := 89) hx hb hg iX12 hown hK hW kd_66 rfl 6 (by decide) (hg (Cond.fieldLink RX12 205 "SlabWalkModel" "sort" "I") m1320) (fun _ h9 => h9) rfl ((hq_362.i 66 6 (by decide) (by decide)).trans ((hq_354.i 66 6 (by decide) (by decide)).trans (rfl))) dX12_unit_54 ?_
        refine lv_bipush (v := 40) hx hb dX12_unit_57 (by decide) ?_
        refine lv_icmp_ne (tgt := 96) hx hb dX12_unit_59 (by decide) (fun c_364 => ?_) (fun c_364 => ?_)
        · have c_364 : (G_3.1 66 6).toInt ≠ 40 := xI_ne rfl rfl c_364
          refine lv_iconst (v := 0) hx hb dX12_unit_96 (by decide) ?_
          refine lv_istore_n (lv' := [(1, .int 0), (0, .ref (a 66))]) hx hb dX12_unit_97 rfl hl (by decide) rfl (fun ls hl => ?_)
          refine lv_goto (tgt := 2) hx hb dX12_unit_98 (by decide) ?_
          have g_365 : (G_360.1 66 24).toInt = (G_3.1 66 24).toInt := by rw [show G_360.1 66 24 = (G_3.1 66 24) from ((hq_362.i 66 24 (by decide) (by decide)).trans ((hq_354.i 66 24 (by decide) (by decide)).trans (rfl)))]
          have g_366 : gB G_360 = gB G_3 := gB_fr (rs := []) (fs := []) ((Fr.rf.call hq_354 (by decide) (by decide)).call hq_362 (by decide) (by decide)) (by decide) (by decide)
          have g_367 : gC G_360 = gC G := gC_fr (rs := [75]) (fs := [(66, 2), (66, 3), (66, 4), (66, 6), (66, 7), (66, 8), (66, 9), (66, 20), (66, 21), (66, 23), (66, 24)]) (((Fr.rf.call hq_4 (by decide) (by decide)).call hq_354 (by decide) (by decide)).call hq_362 (by decide) (by decide)) (by decide) (by decide)
          have g_368 : gD G_360 = gD G := gD_fr (rs := [75]) (fs := [(66, 2), (66, 3), (66, 4), (66, 6), (66, 7), (66, 8), (66, 9), (66, 20), (66, 21), (66, 23), (66, 24)]) (((Fr.rf.call hq_4 (by decide) (by decide)).call hq_354 (by decide) (by decide)).call hq_362 (by decide) (by decide)) (by decide) (by decide)
          have g_369 : gM G_360 = gM G := gM_fr (rs := [75]) (fs := [(66, 2), (66, 3), (66, 4), (66, 6), (66, 7), (66, 8), (66, 9), (66, 20), (66, 21), (66, 23), (66, 24)]) (((Fr.rf.call hq_4 (by decide) (by decide)).call hq_354 (by decide) (by decide)).call hq_362 (by decide) (by decide)) (by decide) (by decide)
          have g_370 : (G_360.1 66 2).toInt = (G_3.1 66 2).toInt := by rw [show G_360.1 66 2 = (G_3.1 66 2) from ((hq_362.i 66 2 (by decide) (by decide)).trans ((hq_354.i 66 2 (by decide) (by decide)).trans (rfl)))]
          have g_371 : (G_360.1 66 20).toInt = (G_3.1 66 20).toInt := by rw [show G_360.1 66 20 = (G_3.1 66 20) from ((hq_362.i 66 20 (by decide) (by decide)).trans ((hq_354.i 66 20 (by decide) (by decide)).trans (rfl)))]
          have g_372 : (G_360.1 66 23).toInt = (G_3.1 66 23).toInt := by rw [show G_360.1 66 23 = (G_3.1 66 23) from ((hq_362.i 66 23 (by decide) (by decide)).trans ((hq_354.i 66 23 (by decide) (by decide)).trans (rfl)))]
          have g_373 : (G_360.1 66 24).toInt = (G_3.1 66 24).toInt := by rw [show G_360.1 66 24 = (G_3.1 66 24) from ((hq_362.i 66 24 (by decide) (by decide)).trans ((hq_354.i 66 24 (by decide) (by decide)).trans (rfl)))]
          have g_374 : (G_360.1 66 23).toInt = (G_3.1 66 23).toInt := by rw [show G_360.1 66 23 = (G_3.1 66 23) from ((hq_362.i 66 23 (by decide) (by decide)).trans ((hq_354.i 66 23 (by decide) (by decide)).trans (rfl)))]
          have g_375 : (G_360.1 66 4).toInt = (G_3.1 66 4).toInt := by rw [show G_360.1 66 4 = (G_3.1 66 4) from ((hq_362.i 66 4 (by decide) (by decide)).trans ((hq_354.i 66 4 (by decide) (by decide)).trans (rfl)))]
          have g_376 : (G_360.1 66 6).toInt = (G_3.1 66 6).toInt := by rw [show G_360.1 66 6 = (G_3.1 66 6) from ((hq_362.i 66 6 (by decide) (by decide)).trans ((hq_354.i 66 6 (by decide) (by decide)).trans (rfl)))]
          have qc_377 : (0 : Int32).toInt = 0 := rfl
          exact ih_5 (9 - (G_360.1 66 24).toInt + 0 : Int).toNat (by omega) _ _ _ ⟨G_360, 0, (Int.toNat_of_nonneg (by omega)), ⟨by omega, by omega⟩, (by omega), (by omega), (by omega), (hX_8.st (St_n_unit_1_mk ⟨x_7, G_3, 0, G_360, rfl, rfl, f_14, f_15, f_16, f_17, hB_G_3, ⟨c_350, ⟨c_351, ⟨r_352, G_353, hX_356, (Or.inr ⟨G_360, hX_363, hB_G_360, hq_362, (Or.inr ⟨c_364, ⟨rfl, rfl⟩⟩)⟩)⟩⟩⟩⟩)), hW, hB_G_360, hF, (((Fr.rf.call hq_4 (by decide) (by decide)).call hq_354 (by decide) (by decide)).call hq_362 (by decide) (by decide)), hS, lv_sub hl [0, 1] rfl⟩
        · have c_364 : (G_3.1 66 6).toInt = 40 := xI_eq rfl rfl c_364
          refine lv_aload_n hx hb dX12_unit_62 rfl (lv_at hl 1 rfl) ?_
          have g_378 : (G_360.1 66 23).toInt = (G_3.1 66 23).toInt := by rw [show G_360.1 66 23 = (G_3.1 66 23) from ((hq_362.i 66 23 (by decide) (by decide)).trans ((hq_354.i 66 23 (by decide) (by decide)).trans (rfl)))]
          refine S_calli (va_runV (As := []) (rest := []) ⟨hx, hb, hml, hown, hts⟩ (n_isFull l D k A a z G_360  ) (cwV 0 hts (gd_V hgd m1729 m1731 m73 m131 m1732) rfl rfl rfl (by decide +kernel) ⟨Nat.le_of_ble_eq_true rfl, Nat.le_of_ble_eq_true rfl⟩) (pre_V hW hB_G_360 hK hZ hS kd_66 rfl) rfl rfl hl.1 rfl (lv_room (Nat.le_of_ble_eq_true rfl)) dX12_unit_63 ⟨Nat.le_of_ble_eq_true rfl, Nat.le_of_ble_eq_true rfl⟩) hS (fun r_379 G_380 H locs hpo hW hS => ?_)
          have hX_383 : Q_isFull G_360 r_379 G_380 := hpo
          obtain ⟨hB_G_380, hq_381, f_384, hp_382, -⟩ := hpo
          have hF := hF.call hq_381 (by decide) (by decide)
          refine lv_if_ne (tgt := 78) hx hb dX12_unit_66 (by decide) (fun c_385 => ?_) (fun c_385 => ?_)
          · have c_385 : r_379.toInt ≠ 0 := xI_ne rfl rfl c_385
            refine lv_aload_n hx hb dX12_unit_78 rfl (lv_at hl 1 rfl) ?_
            refine lv_iconst (v := 2) hx hb dX12_unit_79 (by decide) ?_
            have qc_386 : (2 : Int32).toInt = 2 := rfl
            refine S_callv (va_runV (As := [.int 2]) (rest := []) ⟨hx, hb, hml, hown, hts⟩ (n_wrong l D k A a z G_380 2 ⟨by decide, by decide⟩) (cwV 1 hts (gd_V hgd m1670 m1672 m59 m131 m1673) rfl rfl rfl (by decide +kernel) ⟨Nat.le_of_ble_eq_true rfl, Nat.le_of_ble_eq_true rfl⟩) (pre_V hW hB_G_380 hK hZ hS kd_66 rfl) rfl rfl hl.1 rfl (lv_room (Nat.le_of_ble_eq_true rfl)) dX12_unit_80 ⟨Nat.le_of_ble_eq_true rfl, Nat.le_of_ble_eq_true rfl⟩) hS (fun G_388 H locs hpo hW hS => ?_)
            have hX_391 : Q_wrong 2 G_380 G_388 := hpo
            obtain ⟨hB_G_388, hq_389, hp_390, -⟩ := hpo
            have hF := hF.call hq_389 (by decide) (by decide)
            refine lv_aload_n hx hb dX12_unit_83 rfl (lv_at hl 1 rfl) ?_
            have g_392 : (G_388.1 66 23).toInt = (G_3.1 66 23).toInt := by rw [show G_388.1 66 23 = (G_3.1 66 23) from ((hq_389.i 66 23 (by decide) (by decide)).trans ((hq_381.i 66 23 (by decide) (by decide)).trans ((hq_362.i 66 23 (by decide) (by decide)).trans ((hq_354.i 66 23 (by decide) (by decide)).trans (rfl)))))]
            have g_393 : (G_388.1 66 23).toInt = (G_3.1 66 23).toInt := by rw [show G_388.1 66 23 = (G_3.1 66 23) from ((hq_389.i 66 23 (by decide) (by decide)).trans ((hq_381.i 66 23 (by decide) (by decide)).trans ((hq_362.i 66 23 (by decide) (by decide)).trans ((hq_354.i 66 23 (by decide) (by decide)).trans (rfl)))))]
            refine S_callv (va_runV (As := []) (rest := []) ⟨hx, hb, hml, hown, hts⟩ (n_countUnit l D k A a z G_388  (by omega)) (cwV 0 hts (gd_V hgd m1733 m1735 m74 m131 m1736) rfl rfl rfl (by decide +kernel) ⟨Nat.le_of_ble_eq_true rfl, Nat.le_of_ble_eq_true rfl⟩) (pre_V hW hB_G_388 hK hZ hS kd_66 rfl) rfl rfl hl.1 rfl (lv_room (Nat.le_of_ble_eq_true rfl)) dX12_unit_84 ⟨Nat.le_of_ble_eq_true rfl, Nat.le_of_ble_eq_true rfl⟩) hS (fun G_395 H locs hpo hW hS => ?_)
            have hX_398 : Q_countUnit G_388 G_395 := hpo
            obtain ⟨hB_G_395, hq_396, hp_397, -⟩ := hpo
            have hF := hF.call hq_396 (by decide) (by decide)
            refine lv_aload_n hx hb dX12_unit_87 rfl (lv_at hl 1 rfl) ?_
            refine lv_bipush (v := 20) hx hb dX12_unit_88 (by decide) ?_
            have g_399 : (G_395.1 66 20).toInt = (G_3.1 66 20).toInt := by rw [show G_395.1 66 20 = (G_3.1 66 20) from ((hq_396.i 66 20 (by decide) (by decide)).trans ((hq_389.i 66 20 (by decide) (by decide)).trans ((hq_381.i 66 20 (by decide) (by decide)).trans ((hq_362.i 66 20 (by decide) (by decide)).trans ((hq_354.i 66 20 (by decide) (by decide)).trans (rfl))))))]
            have g_400 : (G_395.1 66 24).toInt = (G_3.1 66 24).toInt := by rw [show G_395.1 66 24 = (G_3.1 66 24) from ((hq_396.i 66 24 (by decide) (by decide)).trans ((hq_389.i 66 24 (by decide) (by decide)).trans ((hq_381.i 66 24 (by decide) (by decide)).trans ((hq_362.i 66 24 (by decide) (by decide)).trans ((hq_354.i 66 24 (by decide) (by decide)).trans (rfl))))))]
            have qc_401 : (20 : Int32).toInt = 20 := rfl
            have g_402 : gB G_395 = gB G_3 := gB_fr (rs := []) (fs := [(66, 2), (66, 3), (66, 21), (66, 23)]) (((((Fr.rf.call hq_354 (by decide) (by decide)).call hq_362 (by decide) (by decide)).call hq_381 (by decide) (by decide)).call hq_389 (by decide) (by decide)).call hq_396 (by decide) (by decide)) (by decide) (by decide)
            have g_403 : (G_395.1 66 20).toInt = (G_3.1 66 20).toInt := by rw [show G_395.1 66 20 = (G_3.1 66 20) from ((hq_396.i 66 20 (by decide) (by decide)).trans ((hq_389.i 66 20 (by decide) (by decide)).trans ((hq_381.i 66 20 (by decide) (by decide)).trans ((hq_362.i 66 20 (by decide) (by decide)).trans ((hq_354.i 66 20 (by decide) (by decide)).trans (rfl))))))]
            have g_404 : (G_395.1 66 24).toInt = (G_3.1 66 24).toInt := by rw [show G_395.1 66 24 = (G_3.1 66 24) from ((hq_396.i 66 24 (by decide) (by decide)).trans ((hq_389.i 66 24 (by decide) (by decide)).trans ((hq_381.i 66 24 (by decide) (by decide)).trans ((hq_362.i 66 24 (by decide) (by decide)).trans ((hq_354.i 66 24 (by decide) (by decide)).trans (rfl))))))]
            have g_405 : (G_395.1 66 4).toInt = (G_3.1 66 4).toInt := by rw [show G_395.1 66 4 = (G_3.1 66 4) from ((hq_396.i 66 4 (by decide) (by decide)).trans ((hq_389.i 66 4 (by decide) (by decide)).trans ((hq_381.i 66 4 (by decide) (by decide)).trans ((hq_362.i 66 4 (by decide) (by decide)).trans ((hq_354.i 66 4 (by decide) (by decide)).trans (rfl))))))]
            have g_406 : (G_395.1 66 6).toInt = (G_3.1 66 6).toInt := by rw [show G_395.1 66 6 = (G_3.1 66 6) from ((hq_396.i 66 6 (by decide) (by decide)).trans ((hq_389.i 66 6 (by decide) (by decide)).trans ((hq_381.i 66 6 (by decide) (by decide)).trans ((hq_362.i 66 6 (by decide) (by decide)).trans ((hq_354.i 66 6 (by decide) (by decide)).trans (rfl))))))]
            refine S_callv (va_runV (As := [.int 20]) (rest := []) ⟨hx, hb, hml, hown, hts⟩ (n_openUp l D k A a z G_395 20 ⟨by decide, by decide⟩ (by omega)) (cwV 1 hts (gd_V hgd m1725 m1727 m72 m131 m1728) rfl rfl rfl (by decide +kernel) ⟨Nat.le_of_ble_eq_true rfl, Nat.le_of_ble_eq_true rfl⟩) (pre_V hW hB_G_395 hK hZ hS kd_66 rfl) rfl rfl hl.1 rfl (lv_room (Nat.le_of_ble_eq_true rfl)) dX12_unit_90 ⟨Nat.le_of_ble_eq_true rfl, Nat.le_of_ble_eq_true rfl⟩) hS (fun G_408 H locs hpo hW hS => ?_)
            have hX_411 : Q_openUp 20 G_395 G_408 := hpo
            obtain ⟨hB_G_408, hq_409, hp_410, -⟩ := hpo
            have hF := hF.call hq_409 (by decide) (by decide)
            refine lv_goto (tgt := 2) hx hb dX12_unit_93 (by decide) ?_
            have b_412 : (-1) ≤ (G_408.1 66 24).toInt ∧ (G_408.1 66 24).toInt ≤ 200 := hB_G_408.i 66 24 rfl rfl
            have g_413 : gC G_408 = gC G := gC_fr (rs := [75]) (fs := [(66, 2), (66, 3), (66, 4), (66, 6), (66, 7), (66, 8), (66, 9), (66, 20), (66, 21), (66, 23), (66, 24)]) (((((((Fr.rf.call hq_4 (by decide) (by decide)).call hq_354 (by decide) (by decide)).call hq_362 (by decide) (by decide)).call hq_381 (by decide) (by decide)).call hq_389 (by decide) (by decide)).call hq_396 (by decide) (by decide)).call hq_409 (by decide) (by decide)) (by decide) (by decide)
            have g_414 : gD G_408 = gD G := gD_fr (rs := [75]) (fs := [(66, 2), (66, 3), (66, 4), (66, 6), (66, 7), (66, 8), (66, 9), (66, 20), (66, 21), (66, 23), (66, 24)]) (((((((Fr.rf.call hq_4 (by decide) (by decide)).call hq_354 (by decide) (by decide)).call hq_362 (by decide) (by decide)).call hq_381 (by decide) (by decide)).call hq_389 (by decide) (by decide)).call hq_396 (by decide) (by decide)).call hq_409 (by decide) (by decide)) (by decide) (by decide)
            have g_415 : gM G_408 = gM G := gM_fr (rs := [75]) (fs := [(66, 2), (66, 3), (66, 4), (66, 6), (66, 7), (66, 8), (66, 9), (66, 20), (66, 21), (66, 23), (66, 24)]) (((((((Fr.rf.call hq_4 (by decide) (by decide)).call hq_354 (by decide) (by decide)).call hq_362 (by decide) (by decide)).call hq_381 (by decide) (by decide)).call hq_389 (by decide) (by decide)).call hq_396 (by decide) (by decide)).call hq_409 (by decide) (by decide)) (by decide) (by decide)
            have b_416 : 0 ≤ (G_388.1 66 2).toInt ∧ (G_388.1 66 2).toInt ≤ 4 := hB_G_388.i 66 2 rfl rfl
            have g_417 : (G_408.1 66 2).toInt = (G_388.1 66 2).toInt := by rw [show G_408.1 66 2 = (G_388.1 66 2) from ((hq_409.i 66 2 (by decide) (by decide)).trans (hq_396.i 66 2 (by decide) (by decide)))]
            have b_418 : 0 ≤ (G_408.1 66 20).toInt ∧ (G_408.1 66 20).toInt ≤ 160 := hB_G_408.i 66 20 rfl rfl
            have b_419 : 0 ≤ (G_395.1 66 23).toInt ∧ (G_395.1 66 23).toInt ≤ 40 := hB_G_395.i 66 23 rfl rfl
            have g_420 : (G_408.1 66 23).toInt = (G_395.1 66 23).toInt := by rw [show G_408.1 66 23 = (G_395.1 66 23) from (hq_409.i 66 23 (by decide) (by decide))]
            have g_421 : (G_408.1 66 23).toInt = (G_395.1 66 23).toInt := by rw [show G_408.1 66 23 = (G_395.1 66 23) from ((hq_409.i 66 23 (by decide) (by decide)).trans (rfl))]
            have b_422 : 0 ≤ (G_408.1 66 4).toInt ∧ (G_408.1 66 4).toInt ≤ 1600 := hB_G_408.i 66 4 rfl rfl
            exact ih_5 (9 - (G_408.1 66 24).toInt + x_7.toInt : Int).toNat (by omega) _ _ _ ⟨G_408, x_7, (Int.toNat_of_nonneg (by omega)), ⟨by omega, by omega⟩, (by omega), (by omega), (by omega), (hX_8.st (St_n_unit_1_mk ⟨x_7, G_3, x_7, G_408, rfl, rfl, f_14, f_15, f_16, f_17, hB_G_3, ⟨c_350, ⟨c_351, ⟨r_352, G_353, hX_356, (Or.inr ⟨G_360, hX_363, hB_G_360, hq_362, (Or.inl ⟨c_364, ⟨r_379, G_380, hX_383, (Or.inr ⟨c_385, ⟨G_388, hX_391, ⟨G_395, hX_398, ⟨G_408, hX_411, ⟨rfl, rfl⟩⟩⟩⟩⟩)⟩⟩)⟩)⟩⟩⟩⟩)), hW, hB_G_408, hF, (((((((Fr.rf.call hq_4 (by decide) (by decide)).call hq_354 (by decide) (by decide)).call hq_362 (by decide) (by decide)).call hq_381 (by decide) (by decide)).call hq_389 (by decide) (by decide)).call hq_396 (by decide) (by decide)).call hq_409 (by decide) (by decide)), hS, lv_sub hl [0, 1] rfl⟩
          · have c_385 : r_379.toInt = 0 := xI_eq rfl rfl c_385
            refine lv_aload_n hx hb dX12_unit_69 rfl (lv_at hl 1 rfl) ?_
            refine S_getI (v := (G_3.1 66 24)) (C := RX12) (T := TX12) (N := 89) hx hb hg iX12 hown hK hW kd_66 rfl 24 (by decide) (hg (Cond.fieldLink RX12 309 "SlabWalkModel" "deep" "I") m1338) (fun _ h9 => h9) rfl ((hq_381.i 66 24 (by decide) (by decide)).trans ((hq_362.i 66 24 (by decide) (by decide)).trans ((hq_354.i 66 24 (by decide) (by decide)).trans (rfl)))) dX12_unit_70 ?_
            refine lv_bipush (v := 6) hx hb dX12_unit_73 (by decide) ?_
            refine lv_icmp_le (tgt := 83) hx hb dX12_unit_75 (by decide) (fun c_423 => ?_) (fun c_423 => ?_)
            · have c_423 : (G_3.1 66 24).toInt ≤ 6 := xI_le rfl rfl c_423
              refine lv_aload_n hx hb dX12_unit_83 rfl (lv_at hl 1 rfl) ?_
              have g_424 : (G_380.1 66 23).toInt = (G_3.1 66 23).toInt := by rw [show G_380.1 66 23 = (G_3.1 66 23) from ((hq_381.i 66 23 (by decide) (by decide)).trans ((hq_362.i 66 23 (by decide) (by decide)).trans ((hq_354.i 66 23 (by decide) (by decide)).trans (rfl))))]
              have g_425 : (G_380.1 66 23).toInt = (G_3.1 66 23).toInt := by rw [show G_380.1 66 23 = (G_3.1 66 23) from ((hq_381.i 66 23 (by decide) (by decide)).trans ((hq_362.i 66 23 (by decide) (by decide)).trans ((hq_354.i 66 23 (by decide) (by decide)).trans (rfl))))]
              refine S_callv (va_runV (As := []) (rest := []) ⟨hx, hb, hml, hown, hts⟩ (n_countUnit l D k A a z G_380  (by omega)) (cwV 0 hts (gd_V hgd m1733 m1735 m74 m131 m1736) rfl rfl rfl (by decide +kernel) ⟨Nat.le_of_ble_eq_true rfl, Nat.le_of_ble_eq_true rfl⟩) (pre_V hW hB_G_380 hK hZ hS kd_66 rfl) rfl rfl hl.1 rfl (lv_room (Nat.le_of_ble_eq_true rfl)) dX12_unit_84 ⟨Nat.le_of_ble_eq_true rfl, Nat.le_of_ble_eq_true rfl⟩) hS (fun G_427 H locs hpo hW hS => ?_)
              have hX_430 : Q_countUnit G_380 G_427 := hpo
              obtain ⟨hB_G_427, hq_428, hp_429, -⟩ := hpo
              have hF := hF.call hq_428 (by decide) (by decide)
              refine lv_aload_n hx hb dX12_unit_87 rfl (lv_at hl 1 rfl) ?_
              refine lv_bipush (v := 20) hx hb dX12_unit_88 (by decide) ?_
              have g_431 : (G_427.1 66 20).toInt = (G_3.1 66 20).toInt := by rw [show G_427.1 66 20 = (G_3.1 66 20) from ((hq_428.i 66 20 (by decide) (by decide)).trans ((hq_381.i 66 20 (by decide) (by decide)).trans ((hq_362.i 66 20 (by decide) (by decide)).trans ((hq_354.i 66 20 (by decide) (by decide)).trans (rfl)))))]
              have g_432 : (G_427.1 66 24).toInt = (G_3.1 66 24).toInt := by rw [show G_427.1 66 24 = (G_3.1 66 24) from ((hq_428.i 66 24 (by decide) (by decide)).trans ((hq_381.i 66 24 (by decide) (by decide)).trans ((hq_362.i 66 24 (by decide) (by decide)).trans ((hq_354.i 66 24 (by decide) (by decide)).trans (rfl)))))]
              have qc_433 : (20 : Int32).toInt = 20 := rfl
              have g_434 : gB G_427 = gB G_3 := gB_fr (rs := []) (fs := [(66, 21), (66, 23)]) ((((Fr.rf.call hq_354 (by decide) (by decide)).call hq_362 (by decide) (by decide)).call hq_381 (by decide) (by decide)).call hq_428 (by decide) (by decide)) (by decide) (by decide)
              have g_435 : (G_427.1 66 20).toInt = (G_3.1 66 20).toInt := by rw [show G_427.1 66 20 = (G_3.1 66 20) from ((hq_428.i 66 20 (by decide) (by decide)).trans ((hq_381.i 66 20 (by decide) (by decide)).trans ((hq_362.i 66 20 (by decide) (by decide)).trans ((hq_354.i 66 20 (by decide) (by decide)).trans (rfl)))))]
              have g_436 : (G_427.1 66 24).toInt = (G_3.1 66 24).toInt := by rw [show G_427.1 66 24 = (G_3.1 66 24) from ((hq_428.i 66 24 (by decide) (by decide)).trans ((hq_381.i 66 24 (by decide) (by decide)).trans ((hq_362.i 66 24 (by decide) (by decide)).trans ((hq_354.i 66 24 (by decide) (by decide)).trans (rfl)))))]
              have g_437 : (G_427.1 66 4).toInt = (G_3.1 66 4).toInt := by rw [show G_427.1 66 4 = (G_3.1 66 4) from ((hq_428.i 66 4 (by decide) (by decide)).trans ((hq_381.i 66 4 (by decide) (by decide)).trans ((hq_362.i 66 4 (by decide) (by decide)).trans ((hq_354.i 66 4 (by decide) (by decide)).trans (rfl)))))]
              have g_438 : (G_427.1 66 6).toInt = (G_3.1 66 6).toInt := by rw [show G_427.1 66 6 = (G_3.1 66 6) from ((hq_428.i 66 6 (by decide) (by decide)).trans ((hq_381.i 66 6 (by decide) (by decide)).trans ((hq_362.i 66 6 (by decide) (by decide)).trans ((hq_354.i 66 6 (by decide) (by decide)).trans (rfl)))))]
              refine S_callv (va_runV (As := [.int 20]) (rest := []) ⟨hx, hb, hml, hown, hts⟩ (n_openUp l D k A a z G_427 20 ⟨by decide, by decide⟩ (by omega)) (cwV 1 hts (gd_V hgd m1725 m1727 m72 m131 m1728) rfl rfl rfl (by decide +kernel) ⟨Nat.le_of_ble_eq_true rfl, Nat.le_of_ble_eq_true rfl⟩) (pre_V hW hB_G_427 hK hZ hS kd_66 rfl) rfl rfl hl.1 rfl (lv_room (Nat.le_of_ble_eq_true rfl)) dX12_unit_90 ⟨Nat.le_of_ble_eq_true rfl, Nat.le_of_ble_eq_true rfl⟩) hS (fun G_440 H locs hpo hW hS => ?_)
              have hX_443 : Q_openUp 20 G_427 G_440 := hpo
              obtain ⟨hB_G_440, hq_441, hp_442, -⟩ := hpo
              have hF := hF.call hq_441 (by decide) (by decide)
              refine lv_goto (tgt := 2) hx hb dX12_unit_93 (by decide) ?_
              have b_444 : (-1) ≤ (G_440.1 66 24).toInt ∧ (G_440.1 66 24).toInt ≤ 200 := hB_G_440.i 66 24 rfl rfl
              have g_445 : gC G_440 = gC G := gC_fr (rs := [75]) (fs := [(66, 2), (66, 3), (66, 4), (66, 6), (66, 7), (66, 8), (66, 9), (66, 20), (66, 21), (66, 23), (66, 24)]) ((((((Fr.rf.call hq_4 (by decide) (by decide)).call hq_354 (by decide) (by decide)).call hq_362 (by decide) (by decide)).call hq_381 (by decide) (by decide)).call hq_428 (by decide) (by decide)).call hq_441 (by decide) (by decide)) (by decide) (by decide)
              have g_446 : gD G_440 = gD G := gD_fr (rs := [75]) (fs := [(66, 2), (66, 3), (66, 4), (66, 6), (66, 7), (66, 8), (66, 9), (66, 20), (66, 21), (66, 23), (66, 24)]) ((((((Fr.rf.call hq_4 (by decide) (by decide)).call hq_354 (by decide) (by decide)).call hq_362 (by decide) (by decide)).call hq_381 (by decide) (by decide)).call hq_428 (by decide) (by decide)).call hq_441 (by decide) (by decide)) (by decide) (by decide)
              have g_447 : gM G_440 = gM G := gM_fr (rs := [75]) (fs := [(66, 2), (66, 3), (66, 4), (66, 6), (66, 7), (66, 8), (66, 9), (66, 20), (66, 21), (66, 23), (66, 24)]) ((((((Fr.rf.call hq_4 (by decide) (by decide)).call hq_354 (by decide) (by decide)).call hq_362 (by decide) (by decide)).call hq_381 (by decide) (by decide)).call hq_428 (by decide) (by decide)).call hq_441 (by decide) (by decide)) (by decide) (by decide)
              have g_448 : (G_440.1 66 2).toInt = (G_3.1 66 2).toInt := by rw [show G_440.1 66 2 = (G_3.1 66 2) from ((hq_441.i 66 2 (by decide) (by decide)).trans ((hq_428.i 66 2 (by decide) (by decide)).trans ((hq_381.i 66 2 (by decide) (by decide)).trans ((hq_362.i 66 2 (by decide) (by decide)).trans ((hq_354.i 66 2 (by decide) (by decide)).trans (rfl))))))]
              have b_449 : 0 ≤ (G_440.1 66 20).toInt ∧ (G_440.1 66 20).toInt ≤ 160 := hB_G_440.i 66 20 rfl rfl
              have b_450 : 0 ≤ (G_427.1 66 23).toInt ∧ (G_427.1 66 23).toInt ≤ 40 := hB_G_427.i 66 23 rfl rfl
              have g_451 : (G_440.1 66 23).toInt = (G_427.1 66 23).toInt := by rw [show G_440.1 66 23 = (G_427.1 66 23) from (hq_441.i 66 23 (by decide) (by decide))]
              have g_452 : (G_440.1 66 23).toInt = (G_427.1 66 23).toInt := by rw [show G_440.1 66 23 = (G_427.1 66 23) from ((hq_441.i 66 23 (by decide) (by decide)).trans (rfl))]
              have b_453 : 0 ≤ (G_440.1 66 4).toInt ∧ (G_440.1 66 4).toInt ≤ 1600 := hB_G_440.i 66 4 rfl rfl
              exact ih_5 (9 - (G_440.1 66 24).toInt + x_7.toInt : Int).toNat (by omega) _ _ _ ⟨G_440, x_7, (Int.toNat_of_nonneg (by omega)), ⟨by omega, by omega⟩, (by omega), (by omega), (by omega), (hX_8.st (St_n_unit_1_mk ⟨x_7, G_3, x_7, G_440, rfl, rfl, f_14, f_15, f_16, f_17, hB_G_3, ⟨c_350, ⟨c_351, ⟨r_352, G_353, hX_356, (Or.inr ⟨G_360, hX_363, hB_G_360, hq_362, (Or.inl ⟨c_364, ⟨r_379, G_380, hX_383, (Or.inl ⟨c_385, (Or.inl ⟨c_423, ⟨G_427, hX_430, ⟨G_440, hX_443, ⟨rfl, rfl⟩⟩⟩⟩)⟩)⟩⟩)⟩)⟩⟩⟩⟩)), hW, hB_G_440, hF, ((((((Fr.rf.call hq_4 (by decide) (by decide)).call hq_354 (by decide) (by decide)).call hq_362 (by decide) (by decide)).call hq_381 (by decide) (by decide)).call hq_428 (by decide) (by decide)).call hq_441 (by decide) (by decide)), hS, lv_sub hl [0, 1] rfl⟩
            · have c_423 : 6 < (G_3.1 66 24).toInt := xI_nle rfl rfl c_423
              refine lv_aload_n hx hb dX12_unit_78 rfl (lv_at hl 1 rfl) ?_
              refine lv_iconst (v := 2) hx hb dX12_unit_79 (by decide) ?_
              have qc_454 : (2 : Int32).toInt = 2 := rfl
              refine S_callv (va_runV (As := [.int 2]) (rest := []) ⟨hx, hb, hml, hown, hts⟩ (n_wrong l D k A a z G_380 2 ⟨by decide, by decide⟩) (cwV 1 hts (gd_V hgd m1670 m1672 m59 m131 m1673) rfl rfl rfl (by decide +kernel) ⟨Nat.le_of_ble_eq_true rfl, Nat.le_of_ble_eq_true rfl⟩) (pre_V hW hB_G_380 hK hZ hS kd_66 rfl) rfl rfl hl.1 rfl (lv_room (Nat.le_of_ble_eq_true rfl)) dX12_unit_80 ⟨Nat.le_of_ble_eq_true rfl, Nat.le_of_ble_eq_true rfl⟩) hS (fun G_456 H locs hpo hW hS => ?_)
              have hX_459 : Q_wrong 2 G_380 G_456 := hpo
              obtain ⟨hB_G_456, hq_457, hp_458, -⟩ := hpo
              have hF := hF.call hq_457 (by decide) (by decide)
              refine lv_aload_n hx hb dX12_unit_83 rfl (lv_at hl 1 rfl) ?_
              have g_460 : (G_456.1 66 23).toInt = (G_3.1 66 23).toInt := by rw [show G_456.1 66 23 = (G_3.1 66 23) from ((hq_457.i 66 23 (by decide) (by decide)).trans ((hq_381.i 66 23 (by decide) (by decide)).trans ((hq_362.i 66 23 (by decide) (by decide)).trans ((hq_354.i 66 23 (by decide) (by decide)).trans (rfl)))))]
              have g_461 : (G_456.1 66 23).toInt = (G_3.1 66 23).toInt := by rw [show G_456.1 66 23 = (G_3.1 66 23) from ((hq_457.i 66 23 (by decide) (by decide)).trans ((hq_381.i 66 23 (by decide) (by decide)).trans ((hq_362.i 66 23 (by decide) (by decide)).trans ((hq_354.i 66 23 (by decide) (by decide)).trans (rfl)))))]
              refine S_callv (va_runV (As := []) (rest := []) ⟨hx, hb, hml, hown, hts⟩ (n_countUnit l D k A a z G_456  (by omega)) (cwV 0 hts (gd_V hgd m1733 m1735 m74 m131 m1736) rfl rfl rfl (by decide +kernel) ⟨Nat.le_of_ble_eq_true rfl, Nat.le_of_ble_eq_true rfl⟩) (pre_V hW hB_G_456 hK hZ hS kd_66 rfl) rfl rfl hl.1 rfl (lv_room (Nat.le_of_ble_eq_true rfl)) dX12_unit_84 ⟨Nat.le_of_ble_eq_true rfl, Nat.le_of_ble_eq_true rfl⟩) hS (fun G_463 H locs hpo hW hS => ?_)
              have hX_466 : Q_countUnit G_456 G_463 := hpo
              obtain ⟨hB_G_463, hq_464, hp_465, -⟩ := hpo
              have hF := hF.call hq_464 (by decide) (by decide)
              refine lv_aload_n hx hb dX12_unit_87 rfl (lv_at hl 1 rfl) ?_
              refine lv_bipush (v := 20) hx hb dX12_unit_88 (by decide) ?_
              have g_467 : (G_463.1 66 20).toInt = (G_3.1 66 20).toInt := by rw [show G_463.1 66 20 = (G_3.1 66 20) from ((hq_464.i 66 20 (by decide) (by decide)).trans ((hq_457.i 66 20 (by decide) (by decide)).trans ((hq_381.i 66 20 (by decide) (by decide)).trans ((hq_362.i 66 20 (by decide) (by decide)).trans ((hq_354.i 66 20 (by decide) (by decide)).trans (rfl))))))]
              have g_468 : (G_463.1 66 24).toInt = (G_3.1 66 24).toInt := by rw [show G_463.1 66 24 = (G_3.1 66 24) from ((hq_464.i 66 24 (by decide) (by decide)).trans ((hq_457.i 66 24 (by decide) (by decide)).trans ((hq_381.i 66 24 (by decide) (by decide)).trans ((hq_362.i 66 24 (by decide) (by decide)).trans ((hq_354.i 66 24 (by decide) (by decide)).trans (rfl))))))]
              have qc_469 : (20 : Int32).toInt = 20 := rfl
              have g_470 : gB G_463 = gB G_3 := gB_fr (rs := []) (fs := [(66, 2), (66, 3), (66, 21), (66, 23)]) (((((Fr.rf.call hq_354 (by decide) (by decide)).call hq_362 (by decide) (by decide)).call hq_381 (by decide) (by decide)).call hq_457 (by decide) (by decide)).call hq_464 (by decide) (by decide)) (by decide) (by decide)
              have g_471 : (G_463.1 66 20).toInt = (G_3.1 66 20).toInt := by rw [show G_463.1 66 20 = (G_3.1 66 20) from ((hq_464.i 66 20 (by decide) (by decide)).trans ((hq_457.i 66 20 (by decide) (by decide)).trans ((hq_381.i 66 20 (by decide) (by decide)).trans ((hq_362.i 66 20 (by decide) (by decide)).trans ((hq_354.i 66 20 (by decide) (by decide)).trans (rfl))))))]
              have g_472 : (G_463.1 66 24).toInt = (G_3.1 66 24).toInt := by rw [show G_463.1 66 24 = (G_3.1 66 24) from ((hq_464.i 66 24 (by decide) (by decide)).trans ((hq_457.i 66 24 (by decide) (by decide)).trans ((hq_381.i 66 24 (by decide) (by decide)).trans ((hq_362.i 66 24 (by decide) (by decide)).trans ((hq_354.i 66 24 (by decide) (by decide)).trans (rfl))))))]
              have g_473 : (G_463.1 66 4).toInt = (G_3.1 66 4).toInt := by rw [show G_463.1 66 4 = (G_3.1 66 4) from ((hq_464.i 66 4 (by decide) (by decide)).trans ((hq_457.i 66 4 (by decide) (by decide)).trans ((hq_381.i 66 4 (by decide) (by decide)).trans ((hq_362.i 66 4 (by decide) (by decide)).trans ((hq_354.i 66 4 (by decide) (by decide)).trans (rfl))))))]
              have g_474 : (G_463.1 66 6).toInt = (G_3.1 66 6).toInt := by rw [show G_463.1 66 6 = (G_3.1 66 6) from ((hq_464.i 66 6 (by decide) (by decide)).trans ((hq_457.i 66 6 (by decide) (by decide)).trans ((hq_381.i 66 6 (by decide) (by decide)).trans ((hq_362.i 66 6 (by decide) (by decide)).trans ((hq_354.i 66 6 (by decide) (by decide)).trans (rfl))))))]
              refine S_callv (va_runV (As := [.int 20]) (rest := []) ⟨hx, hb, hml, hown, hts⟩ (n_openUp l D k A a z G_463 20 ⟨by decide, by decide⟩ (by omega)) (cwV 1 hts (gd_V hgd m1725 m1727 m72 m131 m1728) rfl rfl rfl (by decide +kernel) ⟨Nat.le_of_ble_eq_true rfl, Nat.le_of_ble_eq_true rfl⟩) (pre_V hW hB_G_463 hK hZ hS kd_66 rfl) rfl rfl hl.1 rfl (lv_room (Nat.le_of_ble_eq_true rfl)) dX12_unit_90 ⟨Nat.le_of_ble_eq_true rfl, Nat.le_of_ble_eq_true rfl⟩) hS (fun G_476 H locs hpo hW hS => ?_)
              have hX_479 : Q_openUp 20 G_463 G_476 := hpo
              obtain ⟨hB_G_476, hq_477, hp_478, -⟩ := hpo
              have hF := hF.call hq_477 (by decide) (by decide)
              refine lv_goto (tgt := 2) hx hb dX12_unit_93 (by decide) ?_
              have b_480 : (-1) ≤ (G_476.1 66 24).toInt ∧ (G_476.1 66 24).toInt ≤ 200 := hB_G_476.i 66 24 rfl rfl
              have g_481 : gC G_476 = gC G := gC_fr (rs := [75]) (fs := [(66, 2), (66, 3), (66, 4), (66, 6), (66, 7), (66, 8), (66, 9), (66, 20), (66, 21), (66, 23), (66, 24)]) (((((((Fr.rf.call hq_4 (by decide) (by decide)).call hq_354 (by decide) (by decide)).call hq_362 (by decide) (by decide)).call hq_381 (by decide) (by decide)).call hq_457 (by decide) (by decide)).call hq_464 (by decide) (by decide)).call hq_477 (by decide) (by decide)) (by decide) (by decide)
              have g_482 : gD G_476 = gD G := gD_fr (rs := [75]) (fs := [(66, 2), (66, 3), (66, 4), (66, 6), (66, 7), (66, 8), (66, 9), (66, 20), (66, 21), (66, 23), (66, 24)]) (((((((Fr.rf.call hq_4 (by decide) (by decide)).call hq_354 (by decide) (by decide)).call hq_362 (by decide) (by decide)).call hq_381 (by decide) (by decide)).call hq_457 (by decide) (by decide)).call hq_464 (by decide) (by decide)).call hq_477 (by decide) (by decide)) (by decide) (by decide)
              have g_483 : gM G_476 = gM G := gM_fr (rs := [75]) (fs := [(66, 2), (66, 3), (66, 4), (66, 6), (66, 7), (66, 8), (66, 9), (66, 20), (66, 21), (66, 23), (66, 24)]) (((((((Fr.rf.call hq_4 (by decide) (by decide)).call hq_354 (by decide) (by decide)).call hq_362 (by decide) (by decide)).call hq_381 (by decide) (by decide)).call hq_457 (by decide) (by decide)).call hq_464 (by decide) (by decide)).call hq_477 (by decide) (by decide)) (by decide) (by decide)
              have b_484 : 0 ≤ (G_456.1 66 2).toInt ∧ (G_456.1 66 2).toInt ≤ 4 := hB_G_456.i 66 2 rfl rfl
              have g_485 : (G_476.1 66 2).toInt = (G_456.1 66 2).toInt := by rw [show G_476.1 66 2 = (G_456.1 66 2) from ((hq_477.i 66 2 (by decide) (by decide)).trans (hq_464.i 66 2 (by decide) (by decide)))]
              have b_486 : 0 ≤ (G_476.1 66 20).toInt ∧ (G_476.1 66 20).toInt ≤ 160 := hB_G_476.i 66 20 rfl rfl
              have b_487 : 0 ≤ (G_463.1 66 23).toInt ∧ (G_463.1 66 23).toInt ≤ 40 := hB_G_463.i 66 23 rfl rfl
              have g_488 : (G_476.1 66 23).toInt = (G_463.1 66 23).toInt := by rw [show G_476.1 66 23 = (G_463.1 66 23) from (hq_477.i 66 23 (by decide) (by decide))]
              have g_489 : (G_476.1 66 23).toInt = (G_463.1 66 23).toInt := by rw [show G_476.1 66 23 = (G_463.1 66 23) from ((hq_477.i 66 23 (by decide) (by decide)).trans (rfl))]
              have b_490 : 0 ≤ (G_476.1 66 4).toInt ∧ (G_476.1 66 4).toInt ≤ 1600 := hB_G_476.i 66 4 rfl rfl
              exact ih_5 (9 - (G_476.1 66 24).toInt + x_7.toInt : Int).toNat (by omega) _ _ _ ⟨G_476, x_7, (Int.toNat_of_nonneg (by omega)), ⟨by omega, by omega⟩, (by omega), (by omega), (by omega), (hX_8.st (St_n_unit_1_mk ⟨x_7, G_3, x_7, G_476, rfl, rfl, f_14, f_15, f_16, f_17, hB_G_3, ⟨c_350, ⟨c_351, ⟨r_352, G_353, hX_356, (Or.inr ⟨G_360, hX_363, hB_G_360, hq_362, (Or.inl ⟨c_364, ⟨r_379, G_380, hX_383, (Or.inl ⟨c_385, (Or.inr ⟨c_423, ⟨G_456, hX_459, ⟨G_463, hX_466, ⟨G_476, hX_479, ⟨rfl, rfl⟩⟩⟩⟩⟩)⟩)⟩⟩)⟩)⟩⟩⟩⟩)), hW, hB_G_476, hF, (((((((Fr.rf.call hq_4 (by decide) (by decide)).call hq_354 (by decide) (by decide)).call hq_362 (by decide) (by decide)).call hq_381 (by decide) (by decide)).call hq_457 (by decide) (by decide)).call hq_464 (by decide) (by decide)).call hq_477 (by decide) (by decide)), hS, lv_sub hl [0, 1] rfl⟩
      refine lv_if_eq (tgt := 53) hx hb dX12_unit_20 (by decide) (fun c_491 => ?_) (fun c_491 => ?_)
      · have c_491 : r_352.toInt = 0 := xI_eq rfl rfl c_491
        exact hJ_361 () _ _ _ ⟨G_353, (Jn_n_unit_3_mk (Or.inl ⟨c_491, rfl⟩)), hW, hB_G_353, hF, Fr.rf, hS, lv_sub hl [0, 1] rfl⟩
      · have c_491 : r_352.toInt ≠ 0 := xI_ne rfl rfl c_491
        refine lv_aload_n hx hb dX12_unit_23 rfl (lv_at hl 1 rfl) ?_
        refine S_calli (va_runV (As := []) (rest := []) ⟨hx, hb, hml, hown, hts⟩ (n_mayNot l D k A a z G_353  ) (cwV 0 hts (gd_V hgd m1718 m1720 m71 m131 m1721) rfl rfl rfl (by decide +kernel) ⟨Nat.le_of_ble_eq_true rfl, Nat.le_of_ble_eq_true rfl⟩) (pre_V hW hB_G_353 hK hZ hS kd_66 rfl) rfl rfl hl.1 rfl (lv_room (Nat.le_of_ble_eq_true rfl)) dX12_unit_24 ⟨Nat.le_of_ble_eq_true rfl, Nat.le_of_ble_eq_true rfl⟩) hS (fun r_492 G_493 H locs hpo hW hS => ?_)
        have hX_496 : Q_mayNot G_353 r_492 G_493 := hpo
        obtain ⟨hB_G_493, hq_494, f_497, -⟩ := hpo
        have hF := hF.call hq_494 (by decide) (by decide)
        refine lv_if_eq (tgt := 53) hx hb dX12_unit_27 (by decide) (fun c_498 => ?_) (fun c_498 => ?_)
        · have c_498 : r_492.toInt = 0 := xI_eq rfl rfl c_498
          exact hJ_361 () _ _ _ ⟨G_493, (Jn_n_unit_3_mk (Or.inr ⟨c_491, ⟨r_492, G_493, hX_496, ⟨c_498, rfl⟩⟩⟩)), hW, hB_G_493, hF, (Fr.rf.call hq_494 (by decide) (by decide)), hS, lv_sub hl [0, 1] rfl⟩
        · have c_498 : r_492.toInt ≠ 0 := xI_ne rfl rfl c_498
          refine lv_aload_n hx hb dX12_unit_30 rfl (lv_at hl 1 rfl) ?_
          refine S_getI (v := (G_3.1 66 24)) (C := RX12) (T := TX12) (N := 89) hx hb hg iX12 hown hK hW kd_66 rfl 24 (by decide) (hg (Cond.fieldLink RX12 309 "SlabWalkModel" "deep" "I") m1338) (fun _ h9 => h9) rfl ((hq_494.i 66 24 (by decide) (by decide)).trans ((hq_354.i 66 24 (by decide) (by decide)).trans (rfl))) dX12_unit_31 ?_
          refine lv_bipush (v := 6) hx hb dX12_unit_34 (by decide) ?_
          refine lv_icmp_le (tgt := 44) hx hb dX12_unit_36 (by decide) (fun c_499 => ?_) (fun c_499 => ?_)
          · have c_499 : (G_3.1 66 24).toInt ≤ 6 := xI_le rfl rfl c_499
            refine lv_aload_n hx hb dX12_unit_44 rfl (lv_at hl 1 rfl) ?_
            refine lv_bipush (v := 21) hx hb dX12_unit_45 (by decide) ?_
            have g_500 : (G_493.1 66 20).toInt = (G_3.1 66 20).toInt := by rw [show G_493.1 66 20 = (G_3.1 66 20) from ((hq_494.i 66 20 (by decide) (by decide)).trans ((hq_354.i 66 20 (by decide) (by decide)).trans (rfl)))]
            have g_501 : (G_493.1 66 24).toInt = (G_3.1 66 24).toInt := by rw [show G_493.1 66 24 = (G_3.1 66 24) from ((hq_494.i 66 24 (by decide) (by decide)).trans ((hq_354.i 66 24 (by decide) (by decide)).trans (rfl)))]
            have qc_502 : (21 : Int32).toInt = 21 := rfl
            have g_503 : gB G_493 = gB G_3 := gB_fr (rs := []) (fs := []) ((Fr.rf.call hq_354 (by decide) (by decide)).call hq_494 (by decide) (by decide)) (by decide) (by decide)
            have g_504 : (G_493.1 66 20).toInt = (G_3.1 66 20).toInt := by rw [show G_493.1 66 20 = (G_3.1 66 20) from ((hq_494.i 66 20 (by decide) (by decide)).trans ((hq_354.i 66 20 (by decide) (by decide)).trans (rfl)))]
            have g_505 : (G_493.1 66 24).toInt = (G_3.1 66 24).toInt := by rw [show G_493.1 66 24 = (G_3.1 66 24) from ((hq_494.i 66 24 (by decide) (by decide)).trans ((hq_354.i 66 24 (by decide) (by decide)).trans (rfl)))]
            have g_506 : (G_493.1 66 4).toInt = (G_3.1 66 4).toInt := by rw [show G_493.1 66 4 = (G_3.1 66 4) from ((hq_494.i 66 4 (by decide) (by decide)).trans ((hq_354.i 66 4 (by decide) (by decide)).trans (rfl)))]
            have g_507 : (G_493.1 66 6).toInt = (G_3.1 66 6).toInt := by rw [show G_493.1 66 6 = (G_3.1 66 6) from ((hq_494.i 66 6 (by decide) (by decide)).trans ((hq_354.i 66 6 (by decide) (by decide)).trans (rfl)))]
            refine S_callv (va_runV (As := [.int 21]) (rest := []) ⟨hx, hb, hml, hown, hts⟩ (n_openUp l D k A a z G_493 21 ⟨by decide, by decide⟩ (by omega)) (cwV 1 hts (gd_V hgd m1725 m1727 m72 m131 m1728) rfl rfl rfl (by decide +kernel) ⟨Nat.le_of_ble_eq_true rfl, Nat.le_of_ble_eq_true rfl⟩) (pre_V hW hB_G_493 hK hZ hS kd_66 rfl) rfl rfl hl.1 rfl (lv_room (Nat.le_of_ble_eq_true rfl)) dX12_unit_47 ⟨Nat.le_of_ble_eq_true rfl, Nat.le_of_ble_eq_true rfl⟩) hS (fun G_509 H locs hpo hW hS => ?_)
            have hX_512 : Q_openUp 21 G_493 G_509 := hpo
            obtain ⟨hB_G_509, hq_510, hp_511, -⟩ := hpo
            have hF := hF.call hq_510 (by decide) (by decide)
            refine lv_goto (tgt := 2) hx hb dX12_unit_50 (by decide) ?_
            have b_513 : (-1) ≤ (G_509.1 66 24).toInt ∧ (G_509.1 66 24).toInt ≤ 200 := hB_G_509.i 66 24 rfl rfl
            have g_514 : gC G_509 = gC G := gC_fr (rs := [75]) (fs := [(66, 2), (66, 3), (66, 4), (66, 6), (66, 7), (66, 8), (66, 9), (66, 20), (66, 21), (66, 23), (66, 24)]) ((((Fr.rf.call hq_4 (by decide) (by decide)).call hq_354 (by decide) (by decide)).call hq_494 (by decide) (by decide)).call hq_510 (by decide) (by decide)) (by decide) (by decide)
            have g_515 : gD G_509 = gD G := gD_fr (rs := [75]) (fs := [(66, 2), (66, 3), (66, 4), (66, 6), (66, 7), (66, 8), (66, 9), (66, 20), (66, 21), (66, 23), (66, 24)]) ((((Fr.rf.call hq_4 (by decide) (by decide)).call hq_354 (by decide) (by decide)).call hq_494 (by decide) (by decide)).call hq_510 (by decide) (by decide)) (by decide) (by decide)
            have g_516 : gM G_509 = gM G := gM_fr (rs := [75]) (fs := [(66, 2), (66, 3), (66, 4), (66, 6), (66, 7), (66, 8), (66, 9), (66, 20), (66, 21), (66, 23), (66, 24)]) ((((Fr.rf.call hq_4 (by decide) (by decide)).call hq_354 (by decide) (by decide)).call hq_494 (by decide) (by decide)).call hq_510 (by decide) (by decide)) (by decide) (by decide)
            have g_517 : (G_509.1 66 2).toInt = (G_3.1 66 2).toInt := by rw [show G_509.1 66 2 = (G_3.1 66 2) from ((hq_510.i 66 2 (by decide) (by decide)).trans ((hq_494.i 66 2 (by decide) (by decide)).trans ((hq_354.i 66 2 (by decide) (by decide)).trans (rfl))))]
            have b_518 : 0 ≤ (G_509.1 66 20).toInt ∧ (G_509.1 66 20).toInt ≤ 160 := hB_G_509.i 66 20 rfl rfl
            have g_519 : (G_509.1 66 23).toInt = (G_3.1 66 23).toInt := by rw [show G_509.1 66 23 = (G_3.1 66 23) from ((hq_510.i 66 23 (by decide) (by decide)).trans ((hq_494.i 66 23 (by decide) (by decide)).trans ((hq_354.i 66 23 (by decide) (by decide)).trans (rfl))))]
            have g_520 : (G_509.1 66 23).toInt = (G_3.1 66 23).toInt := by rw [show G_509.1 66 23 = (G_3.1 66 23) from ((hq_510.i 66 23 (by decide) (by decide)).trans ((hq_494.i 66 23 (by decide) (by decide)).trans ((hq_354.i 66 23 (by decide) (by decide)).trans (rfl))))]
            have b_521 : 0 ≤ (G_509.1 66 4).toInt ∧ (G_509.1 66 4).toInt ≤ 1600 := hB_G_509.i 66 4 rfl rfl
            exact ih_5 (9 - (G_509.1 66 24).toInt + x_7.toInt : Int).toNat (by omega) _ _ _ ⟨G_509, x_7, (Int.toNat_of_nonneg (by omega)), ⟨by omega, by omega⟩, (by omega), (by omega), (by omega), (hX_8.st (St_n_unit_1_mk ⟨x_7, G_3, x_7, G_509, rfl, rfl, f_14, f_15, f_16, f_17, hB_G_3, ⟨c_350, ⟨c_351, ⟨r_352, G_353, hX_356, (Or.inl ⟨c_491, ⟨r_492, G_493, hX_496, ⟨c_498, (Or.inl ⟨c_499, ⟨G_509, hX_512, ⟨rfl, rfl⟩⟩⟩)⟩⟩⟩)⟩⟩⟩⟩)), hW, hB_G_509, hF, ((((Fr.rf.call hq_4 (by decide) (by decide)).call hq_354 (by decide) (by decide)).call hq_494 (by decide) (by decide)).call hq_510 (by decide) (by decide)), hS, lv_sub hl [0, 1] rfl⟩
          · have c_499 : 6 < (G_3.1 66 24).toInt := xI_nle rfl rfl c_499
            refine lv_aload_n hx hb dX12_unit_39 rfl (lv_at hl 1 rfl) ?_
            refine lv_iconst (v := 2) hx hb dX12_unit_40 (by decide) ?_
            have qc_522 : (2 : Int32).toInt = 2 := rfl
            refine S_callv (va_runV (As := [.int 2]) (rest := []) ⟨hx, hb, hml, hown, hts⟩ (n_wrong l D k A a z G_493 2 ⟨by decide, by decide⟩) (cwV 1 hts (gd_V hgd m1670 m1672 m59 m131 m1673) rfl rfl rfl (by decide +kernel) ⟨Nat.le_of_ble_eq_true rfl, Nat.le_of_ble_eq_true rfl⟩) (pre_V hW hB_G_493 hK hZ hS kd_66 rfl) rfl rfl hl.1 rfl (lv_room (Nat.le_of_ble_eq_true rfl)) dX12_unit_41 ⟨Nat.le_of_ble_eq_true rfl, Nat.le_of_ble_eq_true rfl⟩) hS (fun G_524 H locs hpo hW hS => ?_)
            have hX_527 : Q_wrong 2 G_493 G_524 := hpo
            obtain ⟨hB_G_524, hq_525, hp_526, -⟩ := hpo
            have hF := hF.call hq_525 (by decide) (by decide)
            refine lv_aload_n hx hb dX12_unit_44 rfl (lv_at hl 1 rfl) ?_
            refine lv_bipush (v := 21) hx hb dX12_unit_45 (by decide) ?_
            have g_528 : (G_524.1 66 20).toInt = (G_3.1 66 20).toInt := by rw [show G_524.1 66 20 = (G_3.1 66 20) from ((hq_525.i 66 20 (by decide) (by decide)).trans ((hq_494.i 66 20 (by decide) (by decide)).trans ((hq_354.i 66 20 (by decide) (by decide)).trans (rfl))))]
            have g_529 : (G_524.1 66 24).toInt = (G_3.1 66 24).toInt := by rw [show G_524.1 66 24 = (G_3.1 66 24) from ((hq_525.i 66 24 (by decide) (by decide)).trans ((hq_494.i 66 24 (by decide) (by decide)).trans ((hq_354.i 66 24 (by decide) (by decide)).trans (rfl))))]
            have qc_530 : (21 : Int32).toInt = 21 := rfl
            have g_531 : gB G_524 = gB G_3 := gB_fr (rs := []) (fs := [(66, 2), (66, 3)]) (((Fr.rf.call hq_354 (by decide) (by decide)).call hq_494 (by decide) (by decide)).call hq_525 (by decide) (by decide)) (by decide) (by decide)
            have g_532 : (G_524.1 66 20).toInt = (G_3.1 66 20).toInt := by rw [show G_524.1 66 20 = (G_3.1 66 20) from ((hq_525.i 66 20 (by decide) (by decide)).trans ((hq_494.i 66 20 (by decide) (by decide)).trans ((hq_354.i 66 20 (by decide) (by decide)).trans (rfl))))]
            have g_533 : (G_524.1 66 24).toInt = (G_3.1 66 24).toInt := by rw [show G_524.1 66 24 = (G_3.1 66 24) from ((hq_525.i 66 24 (by decide) (by decide)).trans ((hq_494.i 66 24 (by decide) (by decide)).trans ((hq_354.i 66 24 (by decide) (by decide)).trans (rfl))))]
            have g_534 : (G_524.1 66 4).toInt = (G_3.1 66 4).toInt := by rw [show G_524.1 66 4 = (G_3.1 66 4) from ((hq_525.i 66 4 (by decide) (by decide)).trans ((hq_494.i 66 4 (by decide) (by decide)).trans ((hq_354.i 66 4 (by decide) (by decide)).trans (rfl))))]
            have g_535 : (G_524.1 66 6).toInt = (G_3.1 66 6).toInt := by rw [show G_524.1 66 6 = (G_3.1 66 6) from ((hq_525.i 66 6 (by decide) (by decide)).trans ((hq_494.i 66 6 (by decide) (by decide)).trans ((hq_354.i 66 6 (by decide) (by decide)).trans (rfl))))]
            refine S_callv (va_runV (As := [.int 21]) (rest := []) ⟨hx, hb, hml, hown, hts⟩ (n_openUp l D k A a z G_524 21 ⟨by decide, by decide⟩ (by omega)) (cwV 1 hts (gd_V hgd m1725 m1727 m72 m131 m1728) rfl rfl rfl (by decide +kernel) ⟨Nat.le_of_ble_eq_true rfl, Nat.le_of_ble_eq_true rfl⟩) (pre_V hW hB_G_524 hK hZ hS kd_66 rfl) rfl rfl hl.1 rfl (lv_room (Nat.le_of_ble_eq_true rfl)) dX12_unit_47 ⟨Nat.le_of_ble_eq_true rfl, Nat.le_of_ble_eq_true rfl⟩) hS (fun G_537 H locs hpo hW hS => ?_)
            have hX_540 : Q_openUp 21 G_524 G_537 := hpo
            obtain ⟨hB_G_537, hq_538, hp_539, -⟩ := hpo
            have hF := hF.call hq_538 (by decide) (by decide)
            refine lv_goto (tgt := 2) hx hb dX12_unit_50 (by decide) ?_
            have b_541 : (-1) ≤ (G_537.1 66 24).toInt ∧ (G_537.1 66 24).toInt ≤ 200 := hB_G_537.i 66 24 rfl rfl
            have g_542 : gC G_537 = gC G := gC_fr (rs := [75]) (fs := [(66, 2), (66, 3), (66, 4), (66, 6), (66, 7), (66, 8), (66, 9), (66, 20), (66, 21), (66, 23), (66, 24)]) (((((Fr.rf.call hq_4 (by decide) (by decide)).call hq_354 (by decide) (by decide)).call hq_494 (by decide) (by decide)).call hq_525 (by decide) (by decide)).call hq_538 (by decide) (by decide)) (by decide) (by decide)
            have g_543 : gD G_537 = gD G := gD_fr (rs := [75]) (fs := [(66, 2), (66, 3), (66, 4), (66, 6), (66, 7), (66, 8), (66, 9), (66, 20), (66, 21), (66, 23), (66, 24)]) (((((Fr.rf.call hq_4 (by decide) (by decide)).call hq_354 (by decide) (by decide)).call hq_494 (by decide) (by decide)).call hq_525 (by decide) (by decide)).call hq_538 (by decide) (by decide)) (by decide) (by decide)
            have g_544 : gM G_537 = gM G := gM_fr (rs := [75]) (fs := [(66, 2), (66, 3), (66, 4), (66, 6), (66, 7), (66, 8), (66, 9), (66, 20), (66, 21), (66, 23), (66, 24)]) (((((Fr.rf.call hq_4 (by decide) (by decide)).call hq_354 (by decide) (by decide)).call hq_494 (by decide) (by decide)).call hq_525 (by decide) (by decide)).call hq_538 (by decide) (by decide)) (by decide) (by decide)
            have b_545 : 0 ≤ (G_524.1 66 2).toInt ∧ (G_524.1 66 2).toInt ≤ 4 := hB_G_524.i 66 2 rfl rfl
            have g_546 : (G_537.1 66 2).toInt = (G_524.1 66 2).toInt := by rw [show G_537.1 66 2 = (G_524.1 66 2) from (hq_538.i 66 2 (by decide) (by decide))]
            have b_547 : 0 ≤ (G_537.1 66 20).toInt ∧ (G_537.1 66 20).toInt ≤ 160 := hB_G_537.i 66 20 rfl rfl
            have g_548 : (G_537.1 66 23).toInt = (G_3.1 66 23).toInt := by rw [show G_537.1 66 23 = (G_3.1 66 23) from ((hq_538.i 66 23 (by decide) (by decide)).trans ((hq_525.i 66 23 (by decide) (by decide)).trans ((hq_494.i 66 23 (by decide) (by decide)).trans ((hq_354.i 66 23 (by decide) (by decide)).trans (rfl)))))]
            have g_549 : (G_537.1 66 23).toInt = (G_3.1 66 23).toInt := by rw [show G_537.1 66 23 = (G_3.1 66 23) from ((hq_538.i 66 23 (by decide) (by decide)).trans ((hq_525.i 66 23 (by decide) (by decide)).trans ((hq_494.i 66 23 (by decide) (by decide)).trans ((hq_354.i 66 23 (by decide) (by decide)).trans (rfl)))))]
            have b_550 : 0 ≤ (G_537.1 66 4).toInt ∧ (G_537.1 66 4).toInt ≤ 1600 := hB_G_537.i 66 4 rfl rfl
            exact ih_5 (9 - (G_537.1 66 24).toInt + x_7.toInt : Int).toNat (by omega) _ _ _ ⟨G_537, x_7, (Int.toNat_of_nonneg (by omega)), ⟨by omega, by omega⟩, (by omega), (by omega), (by omega), (hX_8.st (St_n_unit_1_mk ⟨x_7, G_3, x_7, G_537, rfl, rfl, f_14, f_15, f_16, f_17, hB_G_3, ⟨c_350, ⟨c_351, ⟨r_352, G_353, hX_356, (Or.inl ⟨c_491, ⟨r_492, G_493, hX_496, ⟨c_498, (Or.inr ⟨c_499, ⟨G_524, hX_527, ⟨G_537, hX_540, ⟨rfl, rfl⟩⟩⟩⟩)⟩⟩⟩)⟩⟩⟩⟩)), hW, hB_G_537, hF, (((((Fr.rf.call hq_4 (by decide) (by decide)).call hq_354 (by decide) (by decide)).call hq_494 (by decide) (by decide)).call hq_525 (by decide) (by decide)).call hq_538 (by decide) (by decide)), hS, lv_sub hl [0, 1] rfl⟩
