theorem m28 : Cond.selects RX3 yX3_valueOf yX3_valueOf ∈ gd := gd_mem 28 (by decide +kernel) (by decide +kernel)
theorem m29 : Cond.selects RX3 yX3_push yX3_push ∈ gd := gd_mem 29 (by decide +kernel) (by decide +kernel)
theorem m30 : Cond.selects RX3 yX3_pop yX3_pop ∈ gd := gd_mem 30 (by decide +kernel) (by decide +kernel)
theorem m122 : Cond.initialized RX3 ∈ gd := gd_mem 122 (by decide +kernel) (by decide +kernel)
theorem m129 : Cond.initialized RJ7 ∈ gd := gd_mem 129 (by decide +kernel) (by decide +kernel)
theorem m158 : Cond.fieldLink RX3 37 "SlabWalk$Paving" "length" "[I" ∈ gd := gd_mem 158 (by decide +kernel) (by decide +kernel)
theorem m164 : Cond.fieldLink RX3 60 "SlabWalk$Paving" "foot" "[I" ∈ gd := gd_mem 164 (by decide +kernel) (by decide +kernel)
theorem m182 : Cond.fieldLink RX3 72 "SlabWalk$Paving" "code" "[I" ∈ gd := gd_mem 182 (by decide +kernel) (by decide +kernel)
theorem m184 : Cond.fieldLink RX3 69 "SlabWalk$Paving" "codeEnd" "[I" ∈ gd := gd_mem 184 (by decide +kernel) (by decide +kernel)
theorem m193 : Cond.fieldLink RX3 44 "SlabWalk$Paving" "rules" "I" ∈ gd := gd_mem 193 (by decide +kernel) (by decide +kernel)
theorem m349 : Cond.fieldLink RX3 9 "SlabWalk$Lines" "found" "[I" ∈ gd := gd_mem 349 (by decide +kernel) (by decide +kernel)
theorem m350 : Cond.fieldLink RX3 15 "SlabWalk$Lines" "foundOn" "[I" ∈ gd := gd_mem 350 (by decide +kernel) (by decide +kernel)
theorem m353 : Cond.fieldLink RX3 21 "SlabWalk$Lines" "paving" "LSlabWalk$Paving;" ∈ gd := gd_mem 353 (by decide +kernel) (by decide +kernel)
theorem m555 : Cond.methodLink RX3 25 yJ7_fill_53178 ∈ gd := gd_mem 555 (by decide +kernel) (by decide +kernel)
theorem m556 : Cond.static yJ7_fill_53178 ∈ gd := gd_mem 556 (by decide +kernel) (by decide +kernel)
theorem m557 : Cond.code yJ7_fill_53178 cJ7_fill_53178 4 none ∈ gd := gd_mem 557 (by decide +kernel) (by decide +kernel)
theorem m891 : Cond.instanceMethod yX6_inchAt ∈ gd := gd_mem 891 (by decide +kernel) (by decide +kernel)
theorem m892 : Cond.selects RX6 yX6_inchAt yX6_inchAt ∈ gd := gd_mem 892 (by decide +kernel) (by decide +kernel)
theorem m893 : Cond.code yX6_inchAt cX6_inchAt 3 (some .int) ∈ gd := gd_mem 893 (by decide +kernel) (by decide +kernel)
theorem m919 : Cond.methodLink RX3 31 yX6_hasStreet ∈ gd := gd_mem 919 (by decide +kernel) (by decide +kernel)
theorem m920 : Cond.methodLink RX3 40 yX6_inchAt ∈ gd := gd_mem 920 (by decide +kernel) (by decide +kernel)
theorem m921 : Cond.methodLink RX3 48 yX3_valueOf ∈ gd := gd_mem 921 (by decide +kernel) (by decide +kernel)
theorem m923 : Cond.instanceMethod yX3_valueOf ∈ gd := gd_mem 923 (by decide +kernel) (by decide +kernel)
theorem m924 : Cond.code yX3_valueOf cX3_valueOf 8 (some .int) ∈ gd := gd_mem 924 (by decide +kernel) (by decide +kernel)
theorem m925 : Cond.methodLink RX3 75 yX3_push ∈ gd := gd_mem 925 (by decide +kernel) (by decide +kernel)
theorem m927 : Cond.instanceMethod yX3_push ∈ gd := gd_mem 927 (by decide +kernel) (by decide +kernel)
theorem m928 : Cond.code yX3_push cX3_push 2 none ∈ gd := gd_mem 928 (by decide +kernel) (by decide +kernel)
theorem m929 : Cond.methodLink RX3 79 yX3_pop ∈ gd := gd_mem 929 (by decide +kernel) (by decide +kernel)
theorem m931 : Cond.instanceMethod yX3_pop ∈ gd := gd_mem 931 (by decide +kernel) (by decide +kernel)
theorem m932 : Cond.code yX3_pop cX3_pop 1 (some .int) ∈ gd := gd_mem 932 (by decide +kernel) (by decide +kernel)
theorem m933 : Cond.methodLink RX3 83 yX3_join ∈ gd := gd_mem 933 (by decide +kernel) (by decide +kernel)
theorem m934 : Cond.static yX3_join ∈ gd := gd_mem 934 (by decide +kernel) (by decide +kernel)
theorem m935 : Cond.code yX3_join cX3_join 3 (some .int) ∈ gd := gd_mem 935 (by decide +kernel) (by decide +kernel)
theorem m936 : Cond.methodLink RX3 86 yX3_ownOf ∈ gd := gd_mem 936 (by decide +kernel) (by decide +kernel)
theorem m937 : Cond.static yX3_ownOf ∈ gd := gd_mem 937 (by decide +kernel) (by decide +kernel)
theorem m938 : Cond.code yX3_ownOf cX3_ownOf 3 (some .int) ∈ gd := gd_mem 938 (by decide +kernel) (by decide +kernel)
theorem m941 : Cond.instanceMethod yX3_isLine ∈ gd := gd_mem 941 (by decide +kernel) (by decide +kernel)
theorem m942 : Cond.selects RX3 yX3_isLine yX3_isLine ∈ gd := gd_mem 942 (by decide +kernel) (by decide +kernel)
theorem m943 : Cond.code yX3_isLine cX3_isLine 4 (some .boolean) ∈ gd := gd_mem 943 (by decide +kernel) (by decide +kernel)
theorem m944 : Cond.methodLink RX3 52 yX6_hasInch ∈ gd := gd_mem 944 (by decide +kernel) (by decide +kernel)
theorem m965 : Cond.methodLink RX3 56 yX6_stands ∈ gd := gd_mem 965 (by decide +kernel) (by decide +kernel)
theorem m966 : Cond.instanceMethod yX6_stands ∈ gd := gd_mem 966 (by decide +kernel) (by decide +kernel)
theorem m967 : Cond.selects RX6 yX6_stands yX6_stands ∈ gd := gd_mem 967 (by decide +kernel) (by decide +kernel)
theorem m968 : Cond.code yX6_stands cX6_stands 4 (some .boolean) ∈ gd := gd_mem 968 (by decide +kernel) (by decide +kernel)
theorem m970 : Cond.methodLink RX3 63 yX3_isLine ∈ gd := gd_mem 970 (by decide +kernel) (by decide +kernel)
theorem dX3_findFor_0 : decode cX3_findFor 0 = .ok (.aload_n 0, 1) := by decide +kernel
theorem dX3_findFor_1 : decode cX3_findFor 1 = .ok (.getfield 21, 3) := by decide +kernel
theorem dX3_findFor_4 : decode cX3_findFor 4 = .ok (.iload_n 1, 1) := by decide +kernel
theorem dX3_findFor_5 : decode cX3_findFor 5 = .ok (.invokevirtual 31, 3) := by decide +kernel
theorem dX3_findFor_8 : decode cX3_findFor 8 = .ok (.ifCond .eq 13, 3) := by decide +kernel
theorem dX3_findFor_11 : decode cX3_findFor 11 = .ok (.aload_n 0, 1) := by decide +kernel
theorem dX3_findFor_12 : decode cX3_findFor 12 = .ok (.getfield 15, 3) := by decide +kernel
theorem dX3_findFor_15 : decode cX3_findFor 15 = .ok (.iload_n 1, 1) := by decide +kernel
theorem dX3_findFor_16 : decode cX3_findFor 16 = .ok (.iaload, 1) := by decide +kernel
theorem dX3_findFor_17 : decode cX3_findFor 17 = .ok (.iload_n 2, 1) := by decide +kernel
theorem dX3_findFor_18 : decode cX3_findFor 18 = .ok (.if_icmp .ne 4, 3) := by decide +kernel
theorem dX3_findFor_21 : decode cX3_findFor 21 = .ok (.return_, 1) := by decide +kernel
theorem dX3_findFor_22 : decode cX3_findFor 22 = .ok (.iconst 0, 1) := by decide +kernel
theorem dX3_findFor_23 : decode cX3_findFor 23 = .ok (.istore_n 3, 1) := by decide +kernel
theorem dX3_findFor_24 : decode cX3_findFor 24 = .ok (.iload_n 3, 1) := by decide +kernel
theorem dX3_findFor_25 : decode cX3_findFor 25 = .ok (.aload_n 0, 1) := by decide +kernel
theorem dX3_findFor_26 : decode cX3_findFor 26 = .ok (.getfield 21, 3) := by decide +kernel
theorem dX3_findFor_29 : decode cX3_findFor 29 = .ok (.getfield 37, 3) := by decide +kernel
theorem dX3_findFor_32 : decode cX3_findFor 32 = .ok (.iload_n 1, 1) := by decide +kernel
theorem dX3_findFor_33 : decode cX3_findFor 33 = .ok (.iaload, 1) := by decide +kernel
theorem dX3_findFor_34 : decode cX3_findFor 34 = .ok (.if_icmp .ge 103, 3) := by decide +kernel
theorem dX3_findFor_37 : decode cX3_findFor 37 = .ok (.aload_n 0, 1) := by decide +kernel
theorem dX3_findFor_38 : decode cX3_findFor 38 = .ok (.getfield 21, 3) := by decide +kernel
theorem dX3_findFor_41 : decode cX3_findFor 41 = .ok (.iload_n 1, 1) := by decide +kernel
theorem dX3_findFor_42 : decode cX3_findFor 42 = .ok (.iload_n 3, 1) := by decide +kernel
theorem dX3_findFor_43 : decode cX3_findFor 43 = .ok (.invokevirtual 40, 3) := by decide +kernel
theorem dX3_findFor_46 : decode cX3_findFor 46 = .ok (.istore 4, 2) := by decide +kernel
theorem dX3_findFor_48 : decode cX3_findFor 48 = .ok (.iload 4, 2) := by decide +kernel
theorem dX3_findFor_50 : decode cX3_findFor 50 = .ok (.bipush 13, 2) := by decide +kernel
theorem dX3_findFor_52 : decode cX3_findFor 52 = .ok (.iand, 1) := by decide +kernel
theorem dX3_findFor_53 : decode cX3_findFor 53 = .ok (.ifCond .eq 8, 3) := by decide +kernel
theorem dX3_findFor_56 : decode cX3_findFor 56 = .ok (.bipush 64, 2) := by decide +kernel
theorem dX3_findFor_58 : decode cX3_findFor 58 = .ok (.goto 4, 3) := by decide +kernel
theorem dX3_findFor_61 : decode cX3_findFor 61 = .ok (.iconst 0, 1) := by decide +kernel
theorem dX3_findFor_62 : decode cX3_findFor 62 = .ok (.istore 5, 2) := by decide +kernel
theorem dX3_findFor_64 : decode cX3_findFor 64 = .ok (.iconst 0, 1) := by decide +kernel
theorem dX3_findFor_65 : decode cX3_findFor 65 = .ok (.istore 6, 2) := by decide +kernel
theorem dX3_findFor_67 : decode cX3_findFor 67 = .ok (.iload 6, 2) := by decide +kernel
theorem dX3_findFor_69 : decode cX3_findFor 69 = .ok (.aload_n 0, 1) := by decide +kernel
theorem dX3_findFor_70 : decode cX3_findFor 70 = .ok (.getfield 21, 3) := by decide +kernel
theorem dX3_findFor_73 : decode cX3_findFor 73 = .ok (.getfield 44, 3) := by decide +kernel
theorem dX3_findFor_76 : decode cX3_findFor 76 = .ok (.if_icmp .ge 41, 3) := by decide +kernel
theorem dX3_findFor_79 : decode cX3_findFor 79 = .ok (.iload 6, 2) := by decide +kernel
theorem dX3_findFor_81 : decode cX3_findFor 81 = .ok (.bipush 6, 2) := by decide +kernel
theorem dX3_findFor_83 : decode cX3_findFor 83 = .ok (.if_icmp .ge 34, 3) := by decide +kernel
theorem dX3_findFor_86 : decode cX3_findFor 86 = .ok (.iload 5, 2) := by decide +kernel
theorem dX3_findFor_88 : decode cX3_findFor 88 = .ok (.aload_n 0, 1) := by decide +kernel
theorem dX3_findFor_89 : decode cX3_findFor 89 = .ok (.iload 6, 2) := by decide +kernel
theorem dX3_findFor_91 : decode cX3_findFor 91 = .ok (.iload 4, 2) := by decide +kernel
theorem dX3_findFor_93 : decode cX3_findFor 93 = .ok (.iload_n 2, 1) := by decide +kernel
theorem dX3_findFor_94 : decode cX3_findFor 94 = .ok (.invokevirtual 48, 3) := by decide +kernel
theorem dX3_findFor_97 : decode cX3_findFor 97 = .ok (.ifCond .eq 10, 3) := by decide +kernel
theorem dX3_findFor_100 : decode cX3_findFor 100 = .ok (.iconst 1, 1) := by decide +kernel
theorem dX3_findFor_101 : decode cX3_findFor 101 = .ok (.iload 6, 2) := by decide +kernel
theorem dX3_findFor_103 : decode cX3_findFor 103 = .ok (.ishl, 1) := by decide +kernel
theorem dX3_findFor_104 : decode cX3_findFor 104 = .ok (.goto 4, 3) := by decide +kernel
theorem dX3_findFor_107 : decode cX3_findFor 107 = .ok (.iconst 0, 1) := by decide +kernel
theorem dX3_findFor_108 : decode cX3_findFor 108 = .ok (.ior, 1) := by decide +kernel
theorem dX3_findFor_109 : decode cX3_findFor 109 = .ok (.istore 5, 2) := by decide +kernel
theorem dX3_findFor_111 : decode cX3_findFor 111 = .ok (.iinc 6 1, 3) := by decide +kernel
theorem dX3_findFor_114 : decode cX3_findFor 114 = .ok (.goto (-47), 3) := by decide +kernel
theorem dX3_findFor_117 : decode cX3_findFor 117 = .ok (.aload_n 0, 1) := by decide +kernel
theorem dX3_findFor_118 : decode cX3_findFor 118 = .ok (.getfield 9, 3) := by decide +kernel
theorem dX3_findFor_121 : decode cX3_findFor 121 = .ok (.iload_n 1, 1) := by decide +kernel
theorem dX3_findFor_122 : decode cX3_findFor 122 = .ok (.sipush 400, 3) := by decide +kernel
theorem dX3_findFor_125 : decode cX3_findFor 125 = .ok (.imul, 1) := by decide +kernel
theorem dX3_findFor_126 : decode cX3_findFor 126 = .ok (.iload_n 3, 1) := by decide +kernel
theorem dX3_findFor_127 : decode cX3_findFor 127 = .ok (.iadd, 1) := by decide +kernel
theorem dX3_findFor_128 : decode cX3_findFor 128 = .ok (.iload 5, 2) := by decide +kernel
theorem dX3_findFor_130 : decode cX3_findFor 130 = .ok (.iastore, 1) := by decide +kernel
theorem dX3_findFor_131 : decode cX3_findFor 131 = .ok (.iinc 3 1, 3) := by decide +kernel
theorem dX3_findFor_134 : decode cX3_findFor 134 = .ok (.goto (-110), 3) := by decide +kernel
theorem dX3_findFor_137 : decode cX3_findFor 137 = .ok (.aload_n 0, 1) := by decide +kernel
theorem dX3_findFor_138 : decode cX3_findFor 138 = .ok (.getfield 15, 3) := by decide +kernel
theorem dX3_findFor_141 : decode cX3_findFor 141 = .ok (.iload_n 1, 1) := by decide +kernel
theorem dX3_findFor_142 : decode cX3_findFor 142 = .ok (.iload_n 2, 1) := by decide +kernel
theorem dX3_findFor_143 : decode cX3_findFor 143 = .ok (.iastore, 1) := by decide +kernel
theorem dX3_findFor_144 : decode cX3_findFor 144 = .ok (.return_, 1) := by decide +kernel
theorem dX3_isLawful_0 : decode cX3_isLawful 0 = .ok (.aload_n 0, 1) := by decide +kernel
theorem dX3_isLawful_1 : decode cX3_isLawful 1 = .ok (.getfield 21, 3) := by decide +kernel
theorem dX3_isLawful_4 : decode cX3_isLawful 4 = .ok (.iload_n 1, 1) := by decide +kernel
theorem dX3_isLawful_5 : decode cX3_isLawful 5 = .ok (.iload_n 2, 1) := by decide +kernel
theorem dX3_isLawful_6 : decode cX3_isLawful 6 = .ok (.iload 4, 2) := by decide +kernel
theorem dX3_isLawful_8 : decode cX3_isLawful 8 = .ok (.invokevirtual 56, 3) := by decide +kernel
theorem dX3_isLawful_11 : decode cX3_isLawful 11 = .ok (.ifCond .ne 5, 3) := by decide +kernel
theorem dX3_isLawful_14 : decode cX3_isLawful 14 = .ok (.iconst 0, 1) := by decide +kernel
theorem dX3_isLawful_15 : decode cX3_isLawful 15 = .ok (.ireturn, 1) := by decide +kernel
theorem dX3_isLawful_16 : decode cX3_isLawful 16 = .ok (.iload 4, 2) := by decide +kernel
theorem dX3_isLawful_18 : decode cX3_isLawful 18 = .ok (.istore 5, 2) := by decide +kernel
theorem dX3_isLawful_20 : decode cX3_isLawful 20 = .ok (.iload 5, 2) := by decide +kernel
theorem dX3_isLawful_22 : decode cX3_isLawful 22 = .ok (.iload 4, 2) := by decide +kernel
theorem dX3_isLawful_24 : decode cX3_isLawful 24 = .ok (.aload_n 0, 1) := by decide +kernel
theorem dX3_isLawful_25 : decode cX3_isLawful 25 = .ok (.getfield 21, 3) := by decide +kernel
theorem dX3_isLawful_28 : decode cX3_isLawful 28 = .ok (.getfield 60, 3) := by decide +kernel
theorem dX3_isLawful_31 : decode cX3_isLawful 31 = .ok (.iload_n 1, 1) := by decide +kernel
theorem dX3_isLawful_32 : decode cX3_isLawful 32 = .ok (.iaload, 1) := by decide +kernel
theorem dX3_isLawful_33 : decode cX3_isLawful 33 = .ok (.iadd, 1) := by decide +kernel
theorem dX3_isLawful_34 : decode cX3_isLawful 34 = .ok (.if_icmp .ge 22, 3) := by decide +kernel
theorem dX3_isLawful_37 : decode cX3_isLawful 37 = .ok (.aload_n 0, 1) := by decide +kernel
theorem dX3_isLawful_38 : decode cX3_isLawful 38 = .ok (.iload_n 2, 1) := by decide +kernel
theorem dX3_isLawful_39 : decode cX3_isLawful 39 = .ok (.iload_n 3, 1) := by decide +kernel
theorem dX3_isLawful_40 : decode cX3_isLawful 40 = .ok (.iload 5, 2) := by decide +kernel
theorem dX3_isLawful_42 : decode cX3_isLawful 42 = .ok (.invokevirtual 63, 3) := by decide +kernel
theorem dX3_isLawful_45 : decode cX3_isLawful 45 = .ok (.ifCond .eq 5, 3) := by decide +kernel
theorem dX3_isLawful_48 : decode cX3_isLawful 48 = .ok (.iconst 0, 1) := by decide +kernel
theorem dX3_isLawful_49 : decode cX3_isLawful 49 = .ok (.ireturn, 1) := by decide +kernel
theorem dX3_isLawful_50 : decode cX3_isLawful 50 = .ok (.iinc 5 1, 3) := by decide +kernel
theorem dX3_isLawful_53 : decode cX3_isLawful 53 = .ok (.goto (-33), 3) := by decide +kernel
theorem dX3_isLawful_56 : decode cX3_isLawful 56 = .ok (.iconst 1, 1) := by decide +kernel
theorem dX3_isLawful_57 : decode cX3_isLawful 57 = .ok (.ireturn, 1) := by decide +kernel
theorem dX3_isLine_0 : decode cX3_isLine 0 = .ok (.aload_n 0, 1) := by decide +kernel
theorem dX3_isLine_1 : decode cX3_isLine 1 = .ok (.getfield 21, 3) := by decide +kernel
theorem dX3_isLine_4 : decode cX3_isLine 4 = .ok (.iload_n 1, 1) := by decide +kernel
theorem dX3_isLine_5 : decode cX3_isLine 5 = .ok (.iload_n 3, 1) := by decide +kernel
theorem dX3_isLine_6 : decode cX3_isLine 6 = .ok (.invokevirtual 52, 3) := by decide +kernel
theorem dX3_isLine_9 : decode cX3_isLine 9 = .ok (.ifCond .eq 33, 3) := by decide +kernel
theorem dX3_isLine_12 : decode cX3_isLine 12 = .ok (.aload_n 0, 1) := by decide +kernel
theorem dX3_isLine_13 : decode cX3_isLine 13 = .ok (.getfield 9, 3) := by decide +kernel
theorem dX3_isLine_16 : decode cX3_isLine 16 = .ok (.iload_n 1, 1) := by decide +kernel
theorem dX3_isLine_17 : decode cX3_isLine 17 = .ok (.sipush 400, 3) := by decide +kernel
theorem dX3_isLine_20 : decode cX3_isLine 20 = .ok (.imul, 1) := by decide +kernel
theorem dX3_isLine_21 : decode cX3_isLine 21 = .ok (.iload_n 3, 1) := by decide +kernel
theorem dX3_isLine_22 : decode cX3_isLine 22 = .ok (.iadd, 1) := by decide +kernel
theorem dX3_isLine_23 : decode cX3_isLine 23 = .ok (.iaload, 1) := by decide +kernel
theorem dX3_isLine_24 : decode cX3_isLine 24 = .ok (.iload_n 2, 1) := by decide +kernel
theorem dX3_isLine_25 : decode cX3_isLine 25 = .ok (.ifCond .ne 8, 3) := by decide +kernel
theorem dX3_isLine_28 : decode cX3_isLine 28 = .ok (.bipush 64, 2) := by decide +kernel
theorem dX3_isLine_30 : decode cX3_isLine 30 = .ok (.goto 4, 3) := by decide +kernel
theorem dX3_isLine_33 : decode cX3_isLine 33 = .ok (.iload_n 2, 1) := by decide +kernel
theorem dX3_isLine_34 : decode cX3_isLine 34 = .ok (.iand, 1) := by decide +kernel
theorem dX3_isLine_35 : decode cX3_isLine 35 = .ok (.ifCond .eq 7, 3) := by decide +kernel
theorem dX3_isLine_38 : decode cX3_isLine 38 = .ok (.iconst 1, 1) := by decide +kernel
theorem dX3_isLine_39 : decode cX3_isLine 39 = .ok (.goto 4, 3) := by decide +kernel
theorem dX3_isLine_42 : decode cX3_isLine 42 = .ok (.iconst 0, 1) := by decide +kernel
theorem dX3_isLine_43 : decode cX3_isLine 43 = .ok (.ireturn, 1) := by decide +kernel
theorem dX3_lookAt_0 : decode cX3_lookAt 0 = .ok (.aload_n 0, 1) := by decide +kernel
theorem dX3_lookAt_1 : decode cX3_lookAt 1 = .ok (.aload_n 1, 1) := by decide +kernel
theorem dX3_lookAt_2 : decode cX3_lookAt 2 = .ok (.putfield 21, 3) := by decide +kernel
theorem dX3_lookAt_5 : decode cX3_lookAt 5 = .ok (.aload_n 0, 1) := by decide +kernel
theorem dX3_lookAt_6 : decode cX3_lookAt 6 = .ok (.getfield 15, 3) := by decide +kernel
theorem dX3_lookAt_9 : decode cX3_lookAt 9 = .ok (.iconst (-1), 1) := by decide +kernel
theorem dX3_lookAt_10 : decode cX3_lookAt 10 = .ok (.invokestatic 25, 3) := by decide +kernel
theorem dX3_lookAt_13 : decode cX3_lookAt 13 = .ok (.return_, 1) := by decide +kernel
theorem dX3_valueOf_0 : decode cX3_valueOf 0 = .ok (.aload_n 0, 1) := by decide +kernel
theorem dX3_valueOf_1 : decode cX3_valueOf 1 = .ok (.iconst 0, 1) := by decide +kernel
theorem dX3_valueOf_2 : decode cX3_valueOf 2 = .ok (.putfield 66, 3) := by decide +kernel
theorem dX3_valueOf_5 : decode cX3_valueOf 5 = .ok (.aload_n 0, 1) := by decide +kernel
theorem dX3_valueOf_6 : decode cX3_valueOf 6 = .ok (.getfield 21, 3) := by decide +kernel
theorem dX3_valueOf_9 : decode cX3_valueOf 9 = .ok (.getfield 69, 3) := by decide +kernel
theorem dX3_valueOf_12 : decode cX3_valueOf 12 = .ok (.iload_n 1, 1) := by decide +kernel
theorem dX3_valueOf_13 : decode cX3_valueOf 13 = .ok (.iaload, 1) := by decide +kernel
theorem dX3_valueOf_14 : decode cX3_valueOf 14 = .ok (.istore 4, 2) := by decide +kernel
theorem dX3_valueOf_16 : decode cX3_valueOf 16 = .ok (.iload 4, 2) := by decide +kernel
theorem dX3_valueOf_18 : decode cX3_valueOf 18 = .ok (.aload_n 0, 1) := by decide +kernel
theorem dX3_valueOf_19 : decode cX3_valueOf 19 = .ok (.getfield 21, 3) := by decide +kernel
theorem dX3_valueOf_22 : decode cX3_valueOf 22 = .ok (.getfield 69, 3) := by decide +kernel
theorem dX3_valueOf_25 : decode cX3_valueOf 25 = .ok (.iload_n 1, 1) := by decide +kernel
theorem dX3_valueOf_26 : decode cX3_valueOf 26 = .ok (.iconst 1, 1) := by decide +kernel
theorem dX3_valueOf_27 : decode cX3_valueOf 27 = .ok (.iadd, 1) := by decide +kernel
theorem dX3_valueOf_28 : decode cX3_valueOf 28 = .ok (.iaload, 1) := by decide +kernel
theorem dX3_valueOf_29 : decode cX3_valueOf 29 = .ok (.if_icmp .ge 143, 3) := by decide +kernel
theorem dX3_valueOf_32 : decode cX3_valueOf 32 = .ok (.aload_n 0, 1) := by decide +kernel
theorem dX3_valueOf_33 : decode cX3_valueOf 33 = .ok (.getfield 21, 3) := by decide +kernel
theorem dX3_valueOf_36 : decode cX3_valueOf 36 = .ok (.getfield 72, 3) := by decide +kernel
theorem dX3_valueOf_39 : decode cX3_valueOf 39 = .ok (.iload 4, 2) := by decide +kernel
theorem dX3_valueOf_41 : decode cX3_valueOf 41 = .ok (.iaload, 1) := by decide +kernel
theorem dX3_valueOf_42 : decode cX3_valueOf 42 = .ok (.sipush 1023, 3) := by decide +kernel
theorem dX3_valueOf_45 : decode cX3_valueOf 45 = .ok (.iand, 1) := by decide +kernel
theorem dX3_valueOf_46 : decode cX3_valueOf 46 = .ok (.istore 5, 2) := by decide +kernel
theorem dX3_valueOf_48 : decode cX3_valueOf 48 = .ok (.iload 5, 2) := by decide +kernel
theorem dX3_valueOf_50 : decode cX3_valueOf 50 = .ok (.sipush 201, 3) := by decide +kernel
theorem dX3_valueOf_53 : decode cX3_valueOf 53 = .ok (.if_icmp .ne 23, 3) := by decide +kernel
theorem dX3_valueOf_56 : decode cX3_valueOf 56 = .ok (.aload_n 0, 1) := by decide +kernel
theorem dX3_valueOf_57 : decode cX3_valueOf 57 = .ok (.aload_n 0, 1) := by decide +kernel
theorem dX3_valueOf_58 : decode cX3_valueOf 58 = .ok (.getfield 21, 3) := by decide +kernel
theorem dX3_valueOf_61 : decode cX3_valueOf 61 = .ok (.getfield 72, 3) := by decide +kernel
theorem dX3_valueOf_64 : decode cX3_valueOf 64 = .ok (.iload 4, 2) := by decide +kernel
theorem dX3_valueOf_66 : decode cX3_valueOf 66 = .ok (.iaload, 1) := by decide +kernel
theorem dX3_valueOf_67 : decode cX3_valueOf 67 = .ok (.bipush 10, 2) := by decide +kernel
theorem dX3_valueOf_69 : decode cX3_valueOf 69 = .ok (.ishr, 1) := by decide +kernel
theorem dX3_valueOf_70 : decode cX3_valueOf 70 = .ok (.invokevirtual 75, 3) := by decide +kernel
theorem dX3_valueOf_73 : decode cX3_valueOf 73 = .ok (.goto 93, 3) := by decide +kernel
theorem dX3_valueOf_76 : decode cX3_valueOf 76 = .ok (.iload 5, 2) := by decide +kernel
theorem dX3_valueOf_78 : decode cX3_valueOf 78 = .ok (.sipush 146, 3) := by decide +kernel
theorem dX3_valueOf_81 : decode cX3_valueOf 81 = .ok (.if_icmp .ne 22, 3) := by decide +kernel
theorem dX3_valueOf_84 : decode cX3_valueOf 84 = .ok (.aload_n 0, 1) := by decide +kernel
theorem dX3_valueOf_85 : decode cX3_valueOf 85 = .ok (.aload_n 0, 1) := by decide +kernel
theorem dX3_valueOf_86 : decode cX3_valueOf 86 = .ok (.invokevirtual 79, 3) := by decide +kernel
theorem dX3_valueOf_89 : decode cX3_valueOf 89 = .ok (.ifCond .ne 7, 3) := by decide +kernel
theorem dX3_valueOf_92 : decode cX3_valueOf 92 = .ok (.iconst 1, 1) := by decide +kernel
theorem dX3_valueOf_93 : decode cX3_valueOf 93 = .ok (.goto 4, 3) := by decide +kernel
theorem dX3_valueOf_96 : decode cX3_valueOf 96 = .ok (.iconst 0, 1) := by decide +kernel
theorem dX3_valueOf_97 : decode cX3_valueOf 97 = .ok (.invokevirtual 75, 3) := by decide +kernel
theorem dX3_valueOf_100 : decode cX3_valueOf 100 = .ok (.goto 66, 3) := by decide +kernel
theorem dX3_valueOf_103 : decode cX3_valueOf 103 = .ok (.iload 5, 2) := by decide +kernel
theorem dX3_valueOf_105 : decode cX3_valueOf 105 = .ok (.sipush 144, 3) := by decide +kernel
theorem dX3_valueOf_108 : decode cX3_valueOf 108 = .ok (.if_icmp .eq 19, 3) := by decide +kernel
theorem dX3_valueOf_111 : decode cX3_valueOf 111 = .ok (.iload 5, 2) := by decide +kernel
theorem dX3_valueOf_113 : decode cX3_valueOf 113 = .ok (.sipush 145, 3) := by decide +kernel
theorem dX3_valueOf_116 : decode cX3_valueOf 116 = .ok (.if_icmp .eq 11, 3) := by decide +kernel
theorem dX3_valueOf_119 : decode cX3_valueOf 119 = .ok (.iload 5, 2) := by decide +kernel
theorem dX3_valueOf_121 : decode cX3_valueOf 121 = .ok (.sipush 128, 3) := by decide +kernel
theorem dX3_valueOf_124 : decode cX3_valueOf 124 = .ok (.if_icmp .ge 31, 3) := by decide +kernel
theorem dX3_valueOf_127 : decode cX3_valueOf 127 = .ok (.aload_n 0, 1) := by decide +kernel
theorem dX3_valueOf_128 : decode cX3_valueOf 128 = .ok (.invokevirtual 79, 3) := by decide +kernel
theorem dX3_valueOf_131 : decode cX3_valueOf 131 = .ok (.istore 6, 2) := by decide +kernel
theorem dX3_valueOf_133 : decode cX3_valueOf 133 = .ok (.aload_n 0, 1) := by decide +kernel
theorem dX3_valueOf_134 : decode cX3_valueOf 134 = .ok (.invokevirtual 79, 3) := by decide +kernel
theorem dX3_valueOf_137 : decode cX3_valueOf 137 = .ok (.istore 7, 2) := by decide +kernel
theorem dX3_valueOf_139 : decode cX3_valueOf 139 = .ok (.aload_n 0, 1) := by decide +kernel
theorem dX3_valueOf_140 : decode cX3_valueOf 140 = .ok (.iload 5, 2) := by decide +kernel
theorem dX3_valueOf_142 : decode cX3_valueOf 142 = .ok (.iload 7, 2) := by decide +kernel
theorem dX3_valueOf_144 : decode cX3_valueOf 144 = .ok (.iload 6, 2) := by decide +kernel
theorem dX3_valueOf_146 : decode cX3_valueOf 146 = .ok (.invokestatic 83, 3) := by decide +kernel
theorem dX3_valueOf_149 : decode cX3_valueOf 149 = .ok (.invokevirtual 75, 3) := by decide +kernel
theorem dX3_valueOf_152 : decode cX3_valueOf 152 = .ok (.goto 14, 3) := by decide +kernel
theorem dX3_valueOf_155 : decode cX3_valueOf 155 = .ok (.aload_n 0, 1) := by decide +kernel
theorem dX3_valueOf_156 : decode cX3_valueOf 156 = .ok (.iload 5, 2) := by decide +kernel
theorem dX3_valueOf_158 : decode cX3_valueOf 158 = .ok (.iload_n 2, 1) := by decide +kernel
theorem dX3_valueOf_159 : decode cX3_valueOf 159 = .ok (.iload_n 3, 1) := by decide +kernel
theorem dX3_valueOf_160 : decode cX3_valueOf 160 = .ok (.invokestatic 86, 3) := by decide +kernel
theorem dX3_valueOf_163 : decode cX3_valueOf 163 = .ok (.invokevirtual 75, 3) := by decide +kernel
theorem dX3_valueOf_166 : decode cX3_valueOf 166 = .ok (.iinc 4 1, 3) := by decide +kernel
theorem dX3_valueOf_169 : decode cX3_valueOf 169 = .ok (.goto (-153), 3) := by decide +kernel
theorem dX3_valueOf_172 : decode cX3_valueOf 172 = .ok (.aload_n 0, 1) := by decide +kernel
theorem dX3_valueOf_173 : decode cX3_valueOf 173 = .ok (.invokevirtual 79, 3) := by decide +kernel
theorem dX3_valueOf_176 : decode cX3_valueOf 176 = .ok (.ireturn, 1) := by decide +kernel
set_option maxHeartbeats 4000000 in
set_option maxRecDepth 100000 in
theorem k_lLook_1 (l : Launch) (D : va_G) (k : KT) (A : Nat → Prop) (a : Nat → Nat) (z : SK) (G : GS)   : Met l yX3_lookAt (WS yX3_lookAt cX3_lookAt 2 none) ({ frames := 1, cells := 0, slots := 0, locals := 23 }) (va_Pc [.ref (a 6), .ref (a 1)] (cW D k A a z G)) (va_Qv (fun (G1 : GS) => Bd G1 ∧ Fr [38] [(6, 4)] G G1) (fun (G1 : GS) t => Wd D k A a G1 t.heap) A) 0 0 A := by
  refine Met.ofW (cc := cX3_lookAt) (maxL := 2) (ret := none) (by decide) rfl ?_
  intro p e s m args below meth c s₁ B hml hv
  obtain ⟨rfl, hW, hB_G, hK, hZ⟩ := hv
  have hx := B.exec
  have hb := B.bytes
  have hr := B.returns
  have hts := atoms_spec (ws := WS yX3_lookAt cX3_lookAt 2 none) B.pre
  have hgd : ∀ w ∈ gd, w ∈ WS yX3_lookAt cX3_lookAt 2 none := fun w h => List.mem_cons_of_mem _ h
  have hg : ∀ w ∈ gd, w.before _ s = true := fun w h => hts w (hgd w h)
  have hown : s.vm.findClass RX3 = some m.cls := findClass_of_methodNamed B.named
  have hS : va_S A s.heap s.heap [] := va_S.rf
  have hF : Fr [38] [(6, 4)] G G := Fr.rf
  have hl := lv_entry ([.ref (a 6), .ref (a 1)]) (n := 2) (Nat.le_of_ble_eq_true rfl)
  rw [lg_entry_eq]
  generalize (lg_sl ([.ref (a 6), .ref (a 1)]) ++ List.replicate (2 - (lg_sl ([.ref (a 6), .ref (a 1)])).length) Slot.unset).toArray = ls at hl ⊢
  have hl : lv_has ls 2 [(0, .ref (a 6)), (1, .ref (a 1))] := hl
  refine lv_aload_n hx hb dX3_lookAt_0 rfl (lv_at hl 0 rfl) ?_
  refine lv_aload_n hx hb dX3_lookAt_1 rfl (lv_at hl 1 rfl) ?_
  refine S_putV (ty := .object "SlabWalk$Paving") (n := 1) (C := RX3) (T := TX3) (N := 5) hx hb hg iX3 tyX3 tyX3_ok nmX3 hown hK hW hS kd_6 rfl 4 (by decide) (hg (Cond.fieldLink RX3 21 "SlabWalk$Lines" "paving" "LSlabWalk$Paving;") m353) (fun _ h9 => h9) rfl (by decide +kernel) rfl rfl rfl dX3_lookAt_2 (fun G_1 H locs eG_1 hW hS => ?_)
  have hB_G_1 : Bd G_1 := hB_G.putr eG_1 (by decide) (by decide)
  have hF := hF.putr eG_1 (Or.inr (by decide))
  refine lv_aload_n hx hb dX3_lookAt_5 rfl (lv_at hl 0 rfl) ?_
  refine S_getR (n := 38) (C := RX3) (T := TX3) (N := 5) hx hb hg iX3 hown hK hW kd_6 rfl 1 (by decide) (hg (Cond.fieldLink RX3 15 "SlabWalk$Lines" "foundOn" "[I") m350) (fun _ h9 => h9) rfl dX3_lookAt_6 ?_
  refine lv_iconst (v := (-1)) hx hb dX3_lookAt_9 (by decide) ?_
  refine S_callv (va_runS (As := [.ref (a 38), .int (-1)]) (rest := []) ⟨hx, hb, hml, hown, hts⟩ (k_fill_38 l D k A a z G_1 (-1) ) (va_cwS 2 hts (gd_S hgd m555 m556 m129 m557) rfl rfl rfl (by decide +kernel) ⟨Nat.le_of_ble_eq_true rfl, Nat.le_of_ble_eq_true rfl⟩) (pre_S hW hB_G_1 hK hZ hS) rfl rfl hl.1 rfl (lv_room (Nat.le_of_ble_eq_true rfl)) dX3_lookAt_10 ⟨Nat.le_of_ble_eq_true rfl, Nat.le_of_ble_eq_true rfl⟩) hS (fun G_3 H locs hpo hW hS => ?_)
  obtain ⟨hB_G_3, hq_4⟩ := hpo
  have hF := hF.call hq_4 (by decide) (by decide)
  exact W.vret hx hb hr (fun t ht _ => ⟨⟨G_3, rfl, ⟨hB_G_3, hF⟩, wd_t ht hW⟩, hS.F ht⟩) hS.2.2 dX3_lookAt_13

set_option maxHeartbeats 4000000 in
set_option maxRecDepth 100000 in
theorem k_lValue_1 (l : Launch) (D : va_G) (k : KT) (A : Nat → Prop) (a : Nat → Nat) (z : SK) (G : GS) (p0 : Int32) (p1 : Int32) (p2 : Int32) (ha_p0 : 0 ≤ p0.toInt ∧ p0.toInt ≤ 5) (hv_6_4 : G.2.2 6 4 = 1) : Met l yX3_valueOf (WS yX3_valueOf cX3_valueOf 8 (some .int)) ({ frames := 2, cells := 0, slots := 0, locals := 43 }) (va_Pc [.ref (a 6), .int p0, .int p1, .int p2] (cW D k A a z G)) (va_Qi (fun (r : Int32) (G1 : GS) => Bd G1 ∧ Fr [39] [(6, 3)] G G1) (fun (G1 : GS) t => Wd D k A a G1 t.heap) A) 0 0 A := by
  refine Met.ofW (cc := cX3_valueOf) (maxL := 8) (ret := (some .int)) (by decide) rfl ?_
  intro p e s m args below meth c s₁ B hml hv
  obtain ⟨rfl, hW, hB_G, hK, hZ⟩ := hv
  have hx := B.exec
  have hb := B.bytes
  have hr := B.returns
  have hts := atoms_spec (ws := WS yX3_valueOf cX3_valueOf 8 (some .int)) B.pre
  have hgd : ∀ w ∈ gd, w ∈ WS yX3_valueOf cX3_valueOf 8 (some .int) := fun w h => List.mem_cons_of_mem _ h
  have hg : ∀ w ∈ gd, w.before _ s = true := fun w h => hts w (hgd w h)
  have hown : s.vm.findClass RX3 = some m.cls := findClass_of_methodNamed B.named
  have hS : va_S A s.heap s.heap [] := va_S.rf
  have hF : Fr [39] [(6, 3)] G G := Fr.rf
  have hl := lv_entry ([.ref (a 6), .int p0, .int p1, .int p2]) (n := 8) (Nat.le_of_ble_eq_true rfl)
  rw [lg_entry_eq]
  generalize (lg_sl ([.ref (a 6), .int p0, .int p1, .int p2]) ++ List.replicate (8 - (lg_sl ([.ref (a 6), .int p0, .int p1, .int p2])).length) Slot.unset).toArray = ls at hl ⊢
  have hl : lv_has ls 8 [(0, .ref (a 6)), (1, .int p0), (2, .int p1), (3, .int p2)] := hl
  refine lv_aload_n hx hb dX3_valueOf_0 rfl (lv_at hl 0 rfl) ?_
  refine lv_iconst (v := 0) hx hb dX3_valueOf_1 (by decide) ?_
  refine S_putI (ty := .int) (C := RX3) (T := TX3) (N := 5) hx hb hg iX3 tyX3 tyX3_ok nmX3 hown hK hW hS kd_6 rfl 3 (by decide) (hg (Cond.fieldLink RX3 66 "SlabWalk$Lines" "top" "I") m352) (fun _ h9 => h9) rfl (by decide +kernel) rfl rfl rfl dX3_valueOf_2 (fun G_1 H locs eG_1 hW hS => ?_)
  have hB_G_1 : Bd G_1 := hB_G.put (V := 0) (lo := 0) (hi := 100) eG_1 rfl rfl rfl (by omega) (by omega) (hB_G.2.put eG_1 rfl)
  have hF := hF.put eG_1 (Or.inr (by decide))
  refine lv_aload_n hx hb dX3_valueOf_5 rfl (lv_at hl 0 rfl) ?_
  refine S_getV (n := 1) (C := RX3) (T := TX3) (N := 5) hx hb hg iX3 hown hK hW kd_6 rfl 4 (by decide) (hg (Cond.fieldLink RX3 21 "SlabWalk$Lines" "paving" "LSlabWalk$Paving;") m353) (fun _ h9 => h9) rfl (((congrFun (congrFun (congrArg (fun q => q.2.2) eG_1) 6) 4)).trans (hv_6_4)) dX3_valueOf_6 ?_
  refine S_getR (n := 18) (C := RX6) (T := TX6) (N := 17) hx hb hg iX6 hown hK hW kd_1 rfl 8 (by decide) (hg (Cond.fieldLink RX3 69 "SlabWalk$Paving" "codeEnd" "[I") m184) (fun _ h9 => h9) rfl dX3_valueOf_9 ?_
  refine lv_iload_n hx hb dX3_valueOf_12 rfl (lv_at hl 1 rfl) ?_
  refine S_iald hx hb hK hW kd_18 (vin (by omega) (by omega)) dX3_valueOf_13 (fun y_2 ey_2 => ?_)
  have ty_2 : 0 ≤ y_2.toInt ∧ y_2.toInt ≤ 580 := hB_G_1.v ey_2 rfl rfl
  refine lv_istore (lv' := [(4, .int y_2), (0, .ref (a 6)), (1, .int p0), (2, .int p1), (3, .int p2)]) hx hb dX3_valueOf_14 hl (by decide) rfl (fun ls hl => ?_)
  refine loop_N (Inv := fun n H locs ls => ∃ (G_3 : GS) (x_7 : Int32), (n : Int) = 580 - x_7.toInt ∧ (0 ≤ x_7.toInt ∧ x_7.toInt ≤ 580) ∧ Wd D k A a G_3 H ∧ Bd G_3 ∧ Fr [39] [(6, 3)] G G_3 ∧ Fr [39] [(6, 3)] G_1 G_3 ∧ va_S A s.heap H locs ∧ lv_has ls 8 [(4, .int x_7), (0, .ref (a 6)), (1, .int p0), (2, .int p1), (3, .int p2)]) (fun n_6 H locs ls ih_5 hI => ?_) (580 - y_2.toInt : Int).toNat ⟨G_1, y_2, (Int.toNat_of_nonneg (by omega)), ⟨by omega, by omega⟩, hW, hB_G_1, hF, Fr.rf, hS, lv_sub hl [0, 1, 2, 3, 4] rfl⟩
  obtain ⟨G_3, x_7, hn_9, f_8, hW, hB_G_3, hF, hq_4, hS, hl⟩ := hI
  refine lv_iload hx hb dX3_valueOf_16 (lv_at hl 0 rfl) ?_
  refine lv_aload_n hx hb dX3_valueOf_18 rfl (lv_at hl 1 rfl) ?_
  refine S_getV (n := 1) (C := RX3) (T := TX3) (N := 5) hx hb hg iX3 hown hK hW kd_6 rfl 4 (by decide) (hg (Cond.fieldLink RX3 21 "SlabWalk$Lines" "paving" "LSlabWalk$Paving;") m353) (fun _ h9 => h9) rfl ((((hq_4.r 6 4 (by decide) (by decide)).trans (congrFun (congrFun (congrArg (fun q => q.2.2) eG_1) 6) 4))).trans (hv_6_4)) dX3_valueOf_19 ?_
  refine S_getR (n := 18) (C := RX6) (T := TX6) (N := 17) hx hb hg iX6 hown hK hW kd_1 rfl 8 (by decide) (hg (Cond.fieldLink RX3 69 "SlabWalk$Paving" "codeEnd" "[I") m184) (fun _ h9 => h9) rfl dX3_valueOf_22 ?_
  refine lv_iload_n hx hb dX3_valueOf_25 rfl (lv_at hl 2 rfl) ?_
  refine lv_iconst (v := 1) hx hb dX3_valueOf_26 (by decide) ?_
  refine lv_iadd hx hb dX3_valueOf_27 ?_
  refine lv_topi (fun y_10 ey_10 => ?_)
  have ty_10 : y_10.toInt = p0.toInt + 1 := xI_add rfl rfl ey_10 (by omega) (by omega)
  refine S_iald hx hb hK hW kd_18 (vin (by omega) (by omega)) dX3_valueOf_28 (fun y_11 ey_11 => ?_)
  have ty_11 : 0 ≤ y_11.toInt ∧ y_11.toInt ≤ 580 := hB_G_3.v ey_11 rfl rfl
  refine lv_icmp_ge (tgt := 172) hx hb dX3_valueOf_29 (by decide) (fun c_12 => ?_) (fun c_12 => ?_)
  · have c_12 : y_11.toInt ≤ x_7.toInt := xI_le rfl rfl c_12
    refine lv_aload_n hx hb dX3_valueOf_172 rfl (lv_at hl 1 rfl) ?_
    refine S_calli (va_runV (As := []) (rest := []) ⟨hx, hb, hml, hown, hts⟩ (k_lPop l D k A a z G_3  ) (cwV 0 hts (gd_V hgd m929 m931 m30 m122 m932) rfl rfl rfl (by decide +kernel) ⟨Nat.le_of_ble_eq_true rfl, Nat.le_of_ble_eq_true rfl⟩) (pre_V hW hB_G_3 hK hZ hS kd_6 rfl) rfl rfl hl.1 rfl (lv_room (Nat.le_of_ble_eq_true rfl)) dX3_valueOf_173 ⟨Nat.le_of_ble_eq_true rfl, Nat.le_of_ble_eq_true rfl⟩) hS (fun r_13 G_14 H locs hpo hW hS => ?_)
    obtain ⟨hB_G_14, hq_15⟩ := hpo
    have hF := hF.call hq_15 (by decide) (by decide)
    exact W.iret (v := r_13) hx hb hr (fun t ht _ => ⟨⟨r_13, G_14, rfl, ⟨hB_G_14, hF⟩, wd_t ht hW⟩, hS.F ht⟩) hS.2.2 dX3_valueOf_176
  · have c_12 : x_7.toInt < y_11.toInt := xI_nle rfl rfl c_12
    refine lv_aload_n hx hb dX3_valueOf_32 rfl (lv_at hl 1 rfl) ?_
    refine S_getV (n := 1) (C := RX3) (T := TX3) (N := 5) hx hb hg iX3 hown hK hW kd_6 rfl 4 (by decide) (hg (Cond.fieldLink RX3 21 "SlabWalk$Lines" "paving" "LSlabWalk$Paving;") m353) (fun _ h9 => h9) rfl ((((hq_4.r 6 4 (by decide) (by decide)).trans (congrFun (congrFun (congrArg (fun q => q.2.2) eG_1) 6) 4))).trans (hv_6_4)) dX3_valueOf_33 ?_
    refine S_getR (n := 17) (C := RX6) (T := TX6) (N := 17) hx hb hg iX6 hown hK hW kd_1 rfl 7 (by decide) (hg (Cond.fieldLink RX3 72 "SlabWalk$Paving" "code" "[I") m182) (fun _ h9 => h9) rfl dX3_valueOf_36 ?_
    refine lv_iload hx hb dX3_valueOf_39 (lv_at hl 0 rfl) ?_
    refine S_iald hx hb hK hW kd_17 (vin (by omega) (by omega)) dX3_valueOf_41 (fun y_17 ey_17 => ?_)
    refine lv_sipush (v := 1023) hx hb dX3_valueOf_42 (by decide) ?_
    refine lv_iand hx hb dX3_valueOf_45 ?_
    refine lv_topi (fun y_18 ey_18 => ?_)
    have ty_18 := xI_and (Y := 1023) rfl ey_18 (by decide)
    refine lv_istore (lv' := [(5, .int y_18), (4, .int x_7), (0, .ref (a 6)), (1, .int p0), (2, .int p1), (3, .int p2)]) hx hb dX3_valueOf_46 hl (by decide) rfl (fun ls hl => ?_)
    refine lv_iload hx hb dX3_valueOf_48 (lv_at hl 0 rfl) ?_
    refine lv_sipush (v := 201) hx hb dX3_valueOf_50 (by decide) ?_
    refine lv_icmp_ne (tgt := 76) hx hb dX3_valueOf_53 (by decide) (fun c_19 => ?_) (fun c_19 => ?_)
    · have c_19 : y_18.toInt ≠ 201 := xI_ne rfl rfl c_19
      refine lv_iload hx hb dX3_valueOf_76 (lv_at hl 0 rfl) ?_
      refine lv_sipush (v := 146) hx hb dX3_valueOf_78 (by decide) ?_
      refine lv_icmp_ne (tgt := 103) hx hb dX3_valueOf_81 (by decide) (fun c_20 => ?_) (fun c_20 => ?_)
      · have c_20 : y_18.toInt ≠ 146 := xI_ne rfl rfl c_20
        refine lv_iload hx hb dX3_valueOf_103 (lv_at hl 0 rfl) ?_
        refine lv_sipush (v := 144) hx hb dX3_valueOf_105 (by decide) ?_
        refine W.cut (σ := Unit) (pcJ := 127) (J := fun y H locs ls => ∃ (G_27 : GS), Wd D k A a G_27 H ∧ Bd G_27 ∧ Fr [39] [(6, 3)] G G_27 ∧ Fr [39] [(6, 3)] G_3 G_27 ∧ va_S A s.heap H locs ∧ lv_has ls 8 [(5, .int y_18), (4, .int x_7), (0, .ref (a 6)), (1, .int p0), (2, .int p1), (3, .int p2)]) (stJ := fun _ => []) ?_ (fun hJ_28 => ?_)
        · intro y H locs ls hI
          obtain ⟨G_27, hW, hB_G_27, hF, hq_29, hS, hl⟩ := hI
          refine lv_aload_n hx hb dX3_valueOf_127 rfl (lv_at hl 2 rfl) ?_
          refine S_calli (va_runV (As := []) (rest := []) ⟨hx, hb, hml, hown, hts⟩ (k_lPop l D k A a z G_27  ) (cwV 0 hts (gd_V hgd m929 m931 m30 m122 m932) rfl rfl rfl (by decide +kernel) ⟨Nat.le_of_ble_eq_true rfl, Nat.le_of_ble_eq_true rfl⟩) (pre_V hW hB_G_27 hK hZ hS kd_6 rfl) rfl rfl hl.1 rfl (lv_room (Nat.le_of_ble_eq_true rfl)) dX3_valueOf_128 ⟨Nat.le_of_ble_eq_true rfl, Nat.le_of_ble_eq_true rfl⟩) hS (fun r_30 G_31 H locs hpo hW hS => ?_)
          obtain ⟨hB_G_31, hq_32⟩ := hpo
          have hF := hF.call hq_32 (by decide) (by decide)
          refine lv_istore (lv' := [(6, .int r_30), (5, .int y_18), (4, .int x_7), (0, .ref (a 6)), (1, .int p0), (2, .int p1), (3, .int p2)]) hx hb dX3_valueOf_131 hl (by decide) rfl (fun ls hl => ?_)
          refine lv_aload_n hx hb dX3_valueOf_133 rfl (lv_at hl 3 rfl) ?_
          refine S_calli (va_runV (As := []) (rest := []) ⟨hx, hb, hml, hown, hts⟩ (k_lPop l D k A a z G_31  ) (cwV 0 hts (gd_V hgd m929 m931 m30 m122 m932) rfl rfl rfl (by decide +kernel) ⟨Nat.le_of_ble_eq_true rfl, Nat.le_of_ble_eq_true rfl⟩) (pre_V hW hB_G_31 hK hZ hS kd_6 rfl) rfl rfl hl.1 rfl (lv_room (Nat.le_of_ble_eq_true rfl)) dX3_valueOf_134 ⟨Nat.le_of_ble_eq_true rfl, Nat.le_of_ble_eq_true rfl⟩) hS (fun r_34 G_35 H locs hpo hW hS => ?_)
          obtain ⟨hB_G_35, hq_36⟩ := hpo
          have hF := hF.call hq_36 (by decide) (by decide)
          refine lv_istore (lv' := [(7, .int r_34), (6, .int r_30), (5, .int y_18), (4, .int x_7), (0, .ref (a 6)), (1, .int p0), (2, .int p1), (3, .int p2)]) hx hb dX3_valueOf_137 hl (by decide) rfl (fun ls hl => ?_)
          refine lv_aload_n hx hb dX3_valueOf_139 rfl (lv_at hl 4 rfl) ?_
          refine lv_iload hx hb dX3_valueOf_140 (lv_at hl 2 rfl) ?_
          refine lv_iload hx hb dX3_valueOf_142 (lv_at hl 0 rfl) ?_
          refine lv_iload hx hb dX3_valueOf_144 (lv_at hl 1 rfl) ?_
          refine S_calli (va_runS (As := [.int y_18, .int r_34, .int r_30]) (rest := [.ref (a 6)]) ⟨hx, hb, hml, hown, hts⟩ (k_lJoin l D k A a z G_35 y_18 r_34 r_30 ) (va_cwS 3 hts (gd_S hgd m933 m934 m122 m935) rfl rfl rfl (by decide +kernel) ⟨Nat.le_of_ble_eq_true rfl, Nat.le_of_ble_eq_true rfl⟩) (pre_S hW hB_G_35 hK hZ hS) rfl rfl hl.1 rfl (lv_room (Nat.le_of_ble_eq_true rfl)) dX3_valueOf_146 ⟨Nat.le_of_ble_eq_true rfl, Nat.le_of_ble_eq_true rfl⟩) hS (fun r_38 G_39 H locs hpo hW hS => ?_)
          obtain ⟨hB_G_39, hq_40⟩ := hpo
          have hF := hF.call hq_40 (by decide) (by decide)
          refine S_callv (va_runV (As := [.int r_38]) (rest := []) ⟨hx, hb, hml, hown, hts⟩ (k_lPush l D k A a z G_39 r_38 ) (cwV 1 hts (gd_V hgd m925 m927 m29 m122 m928) rfl rfl rfl (by decide +kernel) ⟨Nat.le_of_ble_eq_true rfl, Nat.le_of_ble_eq_true rfl⟩) (pre_V hW hB_G_39 hK hZ hS kd_6 rfl) rfl rfl hl.1 rfl (lv_room (Nat.le_of_ble_eq_true rfl)) dX3_valueOf_149 ⟨Nat.le_of_ble_eq_true rfl, Nat.le_of_ble_eq_true rfl⟩) hS (fun G_43 H locs hpo hW hS => ?_)
          obtain ⟨hB_G_43, hq_44⟩ := hpo
          have hF := hF.call hq_44 (by decide) (by decide)
          refine lv_goto (tgt := 166) hx hb dX3_valueOf_152 (by decide) ?_
          obtain ⟨y_46, ey_46⟩ : ∃ q, q = x_7 + 1 := ⟨_, rfl⟩
          have ty_46 : y_46.toInt = x_7.toInt + 1 := xI_add rfl rfl ey_46 (by omega) (by omega)
          refine lv_iinc (v := y_46) (lv' := [(4, .int y_46), (7, .int r_34), (6, .int r_30), (5, .int y_18), (0, .ref (a 6)), (1, .int p0), (2, .int p1), (3, .int p2)]) hx hb dX3_valueOf_166 hl (k := 3) rfl (by rw [ey_46]; rfl) (by decide) rfl (fun ls hl => ?_)
          refine lv_goto (tgt := 16) hx hb dX3_valueOf_169 (by decide) ?_
          exact ih_5 (580 - y_46.toInt : Int).toNat (by omega) _ _ _ ⟨G_43, y_46, (Int.toNat_of_nonneg (by omega)), ⟨by omega, by omega⟩, hW, hB_G_43, hF, ((((((Fr.rf.call hq_4 (by decide) (by decide)).call hq_29 (by decide) (by decide)).call hq_32 (by decide) (by decide)).call hq_36 (by decide) (by decide)).call hq_40 (by decide) (by decide)).call hq_44 (by decide) (by decide)), hS, lv_sub hl [0, 4, 5, 6, 7] rfl⟩
        refine lv_icmp_eq (tgt := 127) hx hb dX3_valueOf_108 (by decide) (fun c_47 => ?_) (fun c_47 => ?_)
        · have c_47 : y_18.toInt = 144 := xI_eq rfl rfl c_47
          exact hJ_28 () _ _ _ ⟨G_3, hW, hB_G_3, hF, Fr.rf, hS, lv_sub hl [0, 1, 2, 3, 4, 5] rfl⟩
        · have c_47 : y_18.toInt ≠ 144 := xI_ne rfl rfl c_47
          refine lv_iload hx hb dX3_valueOf_111 (lv_at hl 0 rfl) ?_
          refine lv_sipush (v := 145) hx hb dX3_valueOf_113 (by decide) ?_
          refine lv_icmp_eq (tgt := 127) hx hb dX3_valueOf_116 (by decide) (fun c_48 => ?_) (fun c_48 => ?_)
          · have c_48 : y_18.toInt = 145 := xI_eq rfl rfl c_48
            exact hJ_28 () _ _ _ ⟨G_3, hW, hB_G_3, hF, Fr.rf, hS, lv_sub hl [0, 1, 2, 3, 4, 5] rfl⟩
          · have c_48 : y_18.toInt ≠ 145 := xI_ne rfl rfl c_48
            refine lv_iload hx hb dX3_valueOf_119 (lv_at hl 0 rfl) ?_
            refine lv_sipush (v := 128) hx hb dX3_valueOf_121 (by decide) ?_
            refine lv_icmp_ge (tgt := 155) hx hb dX3_valueOf_124 (by decide) (fun c_49 => ?_) (fun c_49 => ?_)
            · have c_49 : 128 ≤ y_18.toInt := xI_le rfl rfl c_49
              refine lv_aload_n hx hb dX3_valueOf_155 rfl (lv_at hl 2 rfl) ?_
              refine lv_iload hx hb dX3_valueOf_156 (lv_at hl 0 rfl) ?_
              refine lv_iload_n hx hb dX3_valueOf_158 rfl (lv_at hl 4 rfl) ?_
              refine lv_iload_n hx hb dX3_valueOf_159 rfl (lv_at hl 5 rfl) ?_
              refine S_calli (va_runS (As := [.int y_18, .int p1, .int p2]) (rest := [.ref (a 6)]) ⟨hx, hb, hml, hown, hts⟩ (k_lOwn l D k A a z G_3 y_18 p1 p2 ) (va_cwS 3 hts (gd_S hgd m936 m937 m122 m938) rfl rfl rfl (by decide +kernel) ⟨Nat.le_of_ble_eq_true rfl, Nat.le_of_ble_eq_true rfl⟩) (pre_S hW hB_G_3 hK hZ hS) rfl rfl hl.1 rfl (lv_room (Nat.le_of_ble_eq_true rfl)) dX3_valueOf_160 ⟨Nat.le_of_ble_eq_true rfl, Nat.le_of_ble_eq_true rfl⟩) hS (fun r_50 G_51 H locs hpo hW hS => ?_)
              obtain ⟨hB_G_51, hq_52⟩ := hpo
              have hF := hF.call hq_52 (by decide) (by decide)
              refine S_callv (va_runV (As := [.int r_50]) (rest := []) ⟨hx, hb, hml, hown, hts⟩ (k_lPush l D k A a z G_51 r_50 ) (cwV 1 hts (gd_V hgd m925 m927 m29 m122 m928) rfl rfl rfl (by decide +kernel) ⟨Nat.le_of_ble_eq_true rfl, Nat.le_of_ble_eq_true rfl⟩) (pre_V hW hB_G_51 hK hZ hS kd_6 rfl) rfl rfl hl.1 rfl (lv_room (Nat.le_of_ble_eq_true rfl)) dX3_valueOf_163 ⟨Nat.le_of_ble_eq_true rfl, Nat.le_of_ble_eq_true rfl⟩) hS (fun G_55 H locs hpo hW hS => ?_)
              obtain ⟨hB_G_55, hq_56⟩ := hpo
              have hF := hF.call hq_56 (by decide) (by decide)
              obtain ⟨y_58, ey_58⟩ : ∃ q, q = x_7 + 1 := ⟨_, rfl⟩
              have ty_58 : y_58.toInt = x_7.toInt + 1 := xI_add rfl rfl ey_58 (by omega) (by omega)
              refine lv_iinc (v := y_58) (lv' := [(4, .int y_58), (5, .int y_18), (0, .ref (a 6)), (1, .int p0), (2, .int p1), (3, .int p2)]) hx hb dX3_valueOf_166 hl (k := 1) rfl (by rw [ey_58]; rfl) (by decide) rfl (fun ls hl => ?_)
              refine lv_goto (tgt := 16) hx hb dX3_valueOf_169 (by decide) ?_
              exact ih_5 (580 - y_58.toInt : Int).toNat (by omega) _ _ _ ⟨G_55, y_58, (Int.toNat_of_nonneg (by omega)), ⟨by omega, by omega⟩, hW, hB_G_55, hF, (((Fr.rf.call hq_4 (by decide) (by decide)).call hq_52 (by decide) (by decide)).call hq_56 (by decide) (by decide)), hS, lv_sub hl [0, 2, 3, 4, 5] rfl⟩
            · have c_49 : y_18.toInt < 128 := xI_nle rfl rfl c_49
              exact hJ_28 () _ _ _ ⟨G_3, hW, hB_G_3, hF, Fr.rf, hS, lv_sub hl [0, 1, 2, 3, 4, 5] rfl⟩
      · have c_20 : y_18.toInt = 146 := xI_eq rfl rfl c_20
        refine lv_aload_n hx hb dX3_valueOf_84 rfl (lv_at hl 2 rfl) ?_
        refine lv_aload_n hx hb dX3_valueOf_85 rfl (lv_at hl 2 rfl) ?_
        refine S_calli (va_runV (As := []) (rest := [.ref (a 6)]) ⟨hx, hb, hml, hown, hts⟩ (k_lPop l D k A a z G_3  ) (cwV 0 hts (gd_V hgd m929 m931 m30 m122 m932) rfl rfl rfl (by decide +kernel) ⟨Nat.le_of_ble_eq_true rfl, Nat.le_of_ble_eq_true rfl⟩) (pre_V hW hB_G_3 hK hZ hS kd_6 rfl) rfl rfl hl.1 rfl (lv_room (Nat.le_of_ble_eq_true rfl)) dX3_valueOf_86 ⟨Nat.le_of_ble_eq_true rfl, Nat.le_of_ble_eq_true rfl⟩) hS (fun r_59 G_60 H locs hpo hW hS => ?_)
        obtain ⟨hB_G_60, hq_61⟩ := hpo
        have hF := hF.call hq_61 (by decide) (by decide)
        refine lv_if_ne (tgt := 96) hx hb dX3_valueOf_89 (by decide) (fun c_63 => ?_) (fun c_63 => ?_)
        · have c_63 : r_59.toInt ≠ 0 := xI_ne rfl rfl c_63
          refine lv_iconst (v := 0) hx hb dX3_valueOf_96 (by decide) ?_
          refine S_callv (va_runV (As := [.int 0]) (rest := []) ⟨hx, hb, hml, hown, hts⟩ (k_lPush l D k A a z G_60 0 ) (cwV 1 hts (gd_V hgd m925 m927 m29 m122 m928) rfl rfl rfl (by decide +kernel) ⟨Nat.le_of_ble_eq_true rfl, Nat.le_of_ble_eq_true rfl⟩) (pre_V hW hB_G_60 hK hZ hS kd_6 rfl) rfl rfl hl.1 rfl (lv_room (Nat.le_of_ble_eq_true rfl)) dX3_valueOf_97 ⟨Nat.le_of_ble_eq_true rfl, Nat.le_of_ble_eq_true rfl⟩) hS (fun G_65 H locs hpo hW hS => ?_)
          obtain ⟨hB_G_65, hq_66⟩ := hpo
          have hF := hF.call hq_66 (by decide) (by decide)
          refine lv_goto (tgt := 166) hx hb dX3_valueOf_100 (by decide) ?_
          obtain ⟨y_68, ey_68⟩ : ∃ q, q = x_7 + 1 := ⟨_, rfl⟩
          have ty_68 : y_68.toInt = x_7.toInt + 1 := xI_add rfl rfl ey_68 (by omega) (by omega)
          refine lv_iinc (v := y_68) (lv' := [(4, .int y_68), (5, .int y_18), (0, .ref (a 6)), (1, .int p0), (2, .int p1), (3, .int p2)]) hx hb dX3_valueOf_166 hl (k := 1) rfl (by rw [ey_68]; rfl) (by decide) rfl (fun ls hl => ?_)
          refine lv_goto (tgt := 16) hx hb dX3_valueOf_169 (by decide) ?_
          exact ih_5 (580 - y_68.toInt : Int).toNat (by omega) _ _ _ ⟨G_65, y_68, (Int.toNat_of_nonneg (by omega)), ⟨by omega, by omega⟩, hW, hB_G_65, hF, (((Fr.rf.call hq_4 (by decide) (by decide)).call hq_61 (by decide) (by decide)).call hq_66 (by decide) (by decide)), hS, lv_sub hl [0, 2, 3, 4, 5] rfl⟩
        · have c_63 : r_59.toInt = 0 := xI_eq rfl rfl c_63
          refine lv_iconst (v := 1) hx hb dX3_valueOf_92 (by decide) ?_
          refine lv_goto (tgt := 97) hx hb dX3_valueOf_93 (by decide) ?_
          refine S_callv (va_runV (As := [.int 1]) (rest := []) ⟨hx, hb, hml, hown, hts⟩ (k_lPush l D k A a z G_60 1 ) (cwV 1 hts (gd_V hgd m925 m927 m29 m122 m928) rfl rfl rfl (by decide +kernel) ⟨Nat.le_of_ble_eq_true rfl, Nat.le_of_ble_eq_true rfl⟩) (pre_V hW hB_G_60 hK hZ hS kd_6 rfl) rfl rfl hl.1 rfl (lv_room (Nat.le_of_ble_eq_true rfl)) dX3_valueOf_97 ⟨Nat.le_of_ble_eq_true rfl, Nat.le_of_ble_eq_true rfl⟩) hS (fun G_70 H locs hpo hW hS => ?_)
          obtain ⟨hB_G_70, hq_71⟩ := hpo
          have hF := hF.call hq_71 (by decide) (by decide)
          refine lv_goto (tgt := 166) hx hb dX3_valueOf_100 (by decide) ?_
          obtain ⟨y_73, ey_73⟩ : ∃ q, q = x_7 + 1 := ⟨_, rfl⟩
          have ty_73 : y_73.toInt = x_7.toInt + 1 := xI_add rfl rfl ey_73 (by omega) (by omega)
          refine lv_iinc (v := y_73) (lv' := [(4, .int y_73), (5, .int y_18), (0, .ref (a 6)), (1, .int p0), (2, .int p1), (3, .int p2)]) hx hb dX3_valueOf_166 hl (k := 1) rfl (by rw [ey_73]; rfl) (by decide) rfl (fun ls hl => ?_)
          refine lv_goto (tgt := 16) hx hb dX3_valueOf_169 (by decide) ?_
          exact ih_5 (580 - y_73.toInt : Int).toNat (by omega) _ _ _ ⟨G_70, y_73, (Int.toNat_of_nonneg (by omega)), ⟨by omega, by omega⟩, hW, hB_G_70, hF, (((Fr.rf.call hq_4 (by decide) (by decide)).call hq_61 (by decide) (by decide)).call hq_71 (by decide) (by decide)), hS, lv_sub hl [0, 2, 3, 4, 5] rfl⟩
    · have c_19 : y_18.toInt = 201 := xI_eq rfl rfl c_19
      refine lv_aload_n hx hb dX3_valueOf_56 rfl (lv_at hl 2 rfl) ?_
      refine lv_aload_n hx hb dX3_valueOf_57 rfl (lv_at hl 2 rfl) ?_
      refine S_getV (n := 1) (C := RX3) (T := TX3) (N := 5) hx hb hg iX3 hown hK hW kd_6 rfl 4 (by decide) (hg (Cond.fieldLink RX3 21 "SlabWalk$Lines" "paving" "LSlabWalk$Paving;") m353) (fun _ h9 => h9) rfl ((((hq_4.r 6 4 (by decide) (by decide)).trans (congrFun (congrFun (congrArg (fun q => q.2.2) eG_1) 6) 4))).trans (hv_6_4)) dX3_valueOf_58 ?_
      refine S_getR (n := 17) (C := RX6) (T := TX6) (N := 17) hx hb hg iX6 hown hK hW kd_1 rfl 7 (by decide) (hg (Cond.fieldLink RX3 72 "SlabWalk$Paving" "code" "[I") m182) (fun _ h9 => h9) rfl dX3_valueOf_61 ?_
      refine lv_iload hx hb dX3_valueOf_64 (lv_at hl 1 rfl) ?_
      refine S_iald hx hb hK hW kd_17 (vin (by omega) (by omega)) dX3_valueOf_66 (fun y_74 ey_74 => ?_)
      refine lv_bipush (v := 10) hx hb dX3_valueOf_67 (by decide) ?_
      refine lv_ishr hx hb dX3_valueOf_69 ?_
      refine lv_topi (fun y_75 ey_75 => ?_)
      refine S_callv (va_runV (As := [.int y_75]) (rest := []) ⟨hx, hb, hml, hown, hts⟩ (k_lPush l D k A a z G_3 y_75 ) (cwV 1 hts (gd_V hgd m925 m927 m29 m122 m928) rfl rfl rfl (by decide +kernel) ⟨Nat.le_of_ble_eq_true rfl, Nat.le_of_ble_eq_true rfl⟩) (pre_V hW hB_G_3 hK hZ hS kd_6 rfl) rfl rfl hl.1 rfl (lv_room (Nat.le_of_ble_eq_true rfl)) dX3_valueOf_70 ⟨Nat.le_of_ble_eq_true rfl, Nat.le_of_ble_eq_true rfl⟩) hS (fun G_77 H locs hpo hW hS => ?_)
      obtain ⟨hB_G_77, hq_78⟩ := hpo
      have hF := hF.call hq_78 (by decide) (by decide)
      refine lv_goto (tgt := 166) hx hb dX3_valueOf_73 (by decide) ?_
      obtain ⟨y_80, ey_80⟩ : ∃ q, q = x_7 + 1 := ⟨_, rfl⟩
      have ty_80 : y_80.toInt = x_7.toInt + 1 := xI_add rfl rfl ey_80 (by omega) (by omega)
      refine lv_iinc (v := y_80) (lv' := [(4, .int y_80), (5, .int y_18), (0, .ref (a 6)), (1, .int p0), (2, .int p1), (3, .int p2)]) hx hb dX3_valueOf_166 hl (k := 1) rfl (by rw [ey_80]; rfl) (by decide) rfl (fun ls hl => ?_)
      refine lv_goto (tgt := 16) hx hb dX3_valueOf_169 (by decide) ?_
      exact ih_5 (580 - y_80.toInt : Int).toNat (by omega) _ _ _ ⟨G_77, y_80, (Int.toNat_of_nonneg (by omega)), ⟨by omega, by omega⟩, hW, hB_G_77, hF, ((Fr.rf.call hq_4 (by decide) (by decide)).call hq_78 (by decide) (by decide)), hS, lv_sub hl [0, 2, 3, 4, 5] rfl⟩

set_option maxHeartbeats 4000000 in
set_option maxRecDepth 100000 in
theorem k_lFind_1 (l : Launch) (D : va_G) (k : KT) (A : Nat → Prop) (a : Nat → Nat) (z : SK) (G : GS) (p0 : Int32) (p1 : Int32) (hv_6_4 : G.2.2 6 4 = 1) : Met l yX3_findFor (WS yX3_findFor cX3_findFor 7 none) ({ frames := 3, cells := 0, slots := 0, locals := 70 }) (va_Pc [.ref (a 6), .int p0, .int p1] (cW D k A a z G)) (va_Qv (fun (G1 : GS) => Bd G1 ∧ Fr [37, 38, 39] [(6, 3)] G G1) (fun (G1 : GS) t => Wd D k A a G1 t.heap) A) 0 0 A := by
  refine Met.ofW (cc := cX3_findFor) (maxL := 7) (ret := none) (by decide) rfl ?_
  intro p e s m args below meth c s₁ B hml hv
  obtain ⟨rfl, hW, hB_G, hK, hZ⟩ := hv
  have hx := B.exec
  have hb := B.bytes
  have hr := B.returns
  have hts := atoms_spec (ws := WS yX3_findFor cX3_findFor 7 none) B.pre
  have hgd : ∀ w ∈ gd, w ∈ WS yX3_findFor cX3_findFor 7 none := fun w h => List.mem_cons_of_mem _ h
  have hg : ∀ w ∈ gd, w.before _ s = true := fun w h => hts w (hgd w h)
  have hown : s.vm.findClass RX3 = some m.cls := findClass_of_methodNamed B.named
  have hS : va_S A s.heap s.heap [] := va_S.rf
  have hF : Fr [37, 38, 39] [(6, 3)] G G := Fr.rf
  have hl := lv_entry ([.ref (a 6), .int p0, .int p1]) (n := 7) (Nat.le_of_ble_eq_true rfl)
  rw [lg_entry_eq]
  generalize (lg_sl ([.ref (a 6), .int p0, .int p1]) ++ List.replicate (7 - (lg_sl ([.ref (a 6), .int p0, .int p1])).length) Slot.unset).toArray = ls at hl ⊢
  have hl : lv_has ls 7 [(0, .ref (a 6)), (1, .int p0), (2, .int p1)] := hl
  refine lv_aload_n hx hb dX3_findFor_0 rfl (lv_at hl 0 rfl) ?_
  refine S_getV (n := 1) (C := RX3) (T := TX3) (N := 5) hx hb hg iX3 hown hK hW kd_6 rfl 4 (by decide) (hg (Cond.fieldLink RX3 21 "SlabWalk$Lines" "paving" "LSlabWalk$Paving;") m353) (fun _ h9 => h9) rfl hv_6_4 dX3_findFor_1 ?_
  refine lv_iload_n hx hb dX3_findFor_4 rfl (lv_at hl 1 rfl) ?_
  refine S_calli (va_runV (As := [.int p0]) (rest := []) ⟨hx, hb, hml, hown, hts⟩ (k_hasStreet_1 l D k A a z G p0 ) (cwV 1 hts (gd_V hgd m919 m887 m888 m118 m889) rfl rfl rfl (by decide +kernel) ⟨Nat.le_of_ble_eq_true rfl, Nat.le_of_ble_eq_true rfl⟩) (pre_V hW hB_G hK hZ hS kd_1 rfl) rfl rfl hl.1 rfl (lv_room (Nat.le_of_ble_eq_true rfl)) dX3_findFor_5 ⟨Nat.le_of_ble_eq_true rfl, Nat.le_of_ble_eq_true rfl⟩) hS (fun r_1 G_2 H locs hpo hW hS => ?_)
  obtain ⟨hB_G_2, hq_3, f_5, hp_4⟩ := hpo
  have hF := hF.call hq_3 (by decide) (by decide)
  refine lv_if_eq (tgt := 21) hx hb dX3_findFor_8 (by decide) (fun c_6 => ?_) (fun c_6 => ?_)
  · have c_6 : r_1.toInt = 0 := xI_eq rfl rfl c_6
    exact W.vret hx hb hr (fun t ht _ => ⟨⟨G_2, rfl, ⟨hB_G_2, hF⟩, wd_t ht hW⟩, hS.F ht⟩) hS.2.2 dX3_findFor_21
  · have c_6 : r_1.toInt ≠ 0 := xI_ne rfl rfl c_6
    refine lv_aload_n hx hb dX3_findFor_11 rfl (lv_at hl 0 rfl) ?_
    refine S_getR (n := 38) (C := RX3) (T := TX3) (N := 5) hx hb hg iX3 hown hK hW kd_6 rfl 1 (by decide) (hg (Cond.fieldLink RX3 15 "SlabWalk$Lines" "foundOn" "[I") m350) (fun _ h9 => h9) rfl dX3_findFor_12 ?_
    refine lv_iload_n hx hb dX3_findFor_15 rfl (lv_at hl 1 rfl) ?_
    refine S_iald hx hb hK hW kd_38 (vin (by omega) (by omega)) dX3_findFor_16 (fun y_7 ey_7 => ?_)
    refine lv_iload_n hx hb dX3_findFor_17 rfl (lv_at hl 2 rfl) ?_
    refine lv_icmp_ne (tgt := 22) hx hb dX3_findFor_18 (by decide) (fun c_8 => ?_) (fun c_8 => ?_)
    · have c_8 : y_7.toInt ≠ p1.toInt := xI_ne rfl rfl c_8
      refine lv_iconst (v := 0) hx hb dX3_findFor_22 (by decide) ?_
      refine lv_istore_n (lv' := [(3, .int 0), (0, .ref (a 6)), (1, .int p0), (2, .int p1)]) hx hb dX3_findFor_23 rfl hl (by decide) rfl (fun ls hl => ?_)
      have qc_14 : (0 : Int32).toInt = 0 := rfl
      refine loop_N (Inv := fun n H locs ls => ∃ (G_9 : GS) (x_13 : Int32), (n : Int) = 400 - x_13.toInt ∧ (0 ≤ x_13.toInt ∧ x_13.toInt ≤ 400) ∧ Wd D k A a G_9 H ∧ Bd G_9 ∧ Fr [37, 38, 39] [(6, 3)] G G_9 ∧ Fr [37, 38, 39] [(6, 3)] G_2 G_9 ∧ va_S A s.heap H locs ∧ lv_has ls 7 [(3, .int x_13), (0, .ref (a 6)), (1, .int p0), (2, .int p1)]) (fun n_12 H locs ls ih_11 hI => ?_) (400 - 0 : Int).toNat ⟨G_2, 0, (Int.toNat_of_nonneg (by omega)), ⟨by omega, by omega⟩, hW, hB_G_2, hF, Fr.rf, hS, lv_sub hl [0, 1, 2, 3] rfl⟩
      obtain ⟨G_9, x_13, hn_16, f_15, hW, hB_G_9, hF, hq_10, hS, hl⟩ := hI
      refine lv_iload_n hx hb dX3_findFor_24 rfl (lv_at hl 0 rfl) ?_
      refine lv_aload_n hx hb dX3_findFor_25 rfl (lv_at hl 1 rfl) ?_
      refine S_getV (n := 1) (C := RX3) (T := TX3) (N := 5) hx hb hg iX3 hown hK hW kd_6 rfl 4 (by decide) (hg (Cond.fieldLink RX3 21 "SlabWalk$Lines" "paving" "LSlabWalk$Paving;") m353) (fun _ h9 => h9) rfl ((((hq_10.r 6 4 (by decide) (by decide)).trans (hq_3.r 6 4 (by decide) (by decide)))).trans (hv_6_4)) dX3_findFor_26 ?_
      refine S_getR (n := 10) (C := RX6) (T := TX6) (N := 17) hx hb hg iX6 hown hK hW kd_1 rfl 0 (by decide) (hg (Cond.fieldLink RX3 37 "SlabWalk$Paving" "length" "[I") m158) (fun _ h9 => h9) rfl dX3_findFor_29 ?_
      refine lv_iload_n hx hb dX3_findFor_32 rfl (lv_at hl 2 rfl) ?_
      refine S_iald hx hb hK hW kd_10 (vin (by omega) (by omega)) dX3_findFor_33 (fun y_17 ey_17 => ?_)
      have ty_17 : 0 ≤ y_17.toInt ∧ y_17.toInt ≤ 400 := hB_G_9.v ey_17 rfl rfl
      refine lv_icmp_ge (tgt := 137) hx hb dX3_findFor_34 (by decide) (fun c_18 => ?_) (fun c_18 => ?_)
      · have c_18 : y_17.toInt ≤ x_13.toInt := xI_le rfl rfl c_18
        refine lv_aload_n hx hb dX3_findFor_137 rfl (lv_at hl 1 rfl) ?_
        refine S_getR (n := 38) (C := RX3) (T := TX3) (N := 5) hx hb hg iX3 hown hK hW kd_6 rfl 1 (by decide) (hg (Cond.fieldLink RX3 15 "SlabWalk$Lines" "foundOn" "[I") m350) (fun _ h9 => h9) rfl dX3_findFor_138 ?_
        refine lv_iload_n hx hb dX3_findFor_141 rfl (lv_at hl 2 rfl) ?_
        refine lv_iload_n hx hb dX3_findFor_142 rfl (lv_at hl 3 rfl) ?_
        refine S_iast hx hb hK hW hS kd_38 (vin (by omega) (by omega)) dX3_findFor_143 (fun G_19 H locs eG_19 hW hS => ?_)
        have hB_G_19 : Bd G_19 := hB_G_9.put (lo := (-2147483648)) (hi := 2147483647) eG_19 rfl rfl rfl (tI_rng _).1 (tI_rng _).2 (hB_G_9.2.put eG_19 rfl)
        have hF := hF.put eG_19 (Or.inl (by decide))
        exact W.vret hx hb hr (fun t ht _ => ⟨⟨G_19, rfl, ⟨hB_G_19, hF⟩, wd_t ht hW⟩, hS.F ht⟩) hS.2.2 dX3_findFor_144
      · have c_18 : x_13.toInt < y_17.toInt := xI_nle rfl rfl c_18
        refine lv_aload_n hx hb dX3_findFor_37 rfl (lv_at hl 1 rfl) ?_
        refine S_getV (n := 1) (C := RX3) (T := TX3) (N := 5) hx hb hg iX3 hown hK hW kd_6 rfl 4 (by decide) (hg (Cond.fieldLink RX3 21 "SlabWalk$Lines" "paving" "LSlabWalk$Paving;") m353) (fun _ h9 => h9) rfl ((((hq_10.r 6 4 (by decide) (by decide)).trans (hq_3.r 6 4 (by decide) (by decide)))).trans (hv_6_4)) dX3_findFor_38 ?_
        refine lv_iload_n hx hb dX3_findFor_41 rfl (lv_at hl 2 rfl) ?_
        refine lv_iload_n hx hb dX3_findFor_42 rfl (lv_at hl 0 rfl) ?_
        refine S_calli (va_runV (As := [.int p0, .int x_13]) (rest := []) ⟨hx, hb, hml, hown, hts⟩ (k_inchAt_1 l D k A a z G_9 p0 x_13 ) (cwV 2 hts (gd_V hgd m920 m891 m892 m118 m893) rfl rfl rfl (by decide +kernel) ⟨Nat.le_of_ble_eq_true rfl, Nat.le_of_ble_eq_true rfl⟩) (pre_V hW hB_G_9 hK hZ hS kd_1 rfl) rfl rfl hl.1 rfl (lv_room (Nat.le_of_ble_eq_true rfl)) dX3_findFor_43 ⟨Nat.le_of_ble_eq_true rfl, Nat.le_of_ble_eq_true rfl⟩) hS (fun r_20 G_21 H locs hpo hW hS => ?_)
        obtain ⟨hB_G_21, hq_22⟩ := hpo
        have hF := hF.call hq_22 (by decide) (by decide)
        refine lv_istore (lv' := [(4, .int r_20), (3, .int x_13), (0, .ref (a 6)), (1, .int p0), (2, .int p1)]) hx hb dX3_findFor_46 hl (by decide) rfl (fun ls hl => ?_)
        refine lv_iload hx hb dX3_findFor_48 (lv_at hl 0 rfl) ?_
        refine lv_bipush (v := 13) hx hb dX3_findFor_50 (by decide) ?_
        refine lv_iand hx hb dX3_findFor_52 ?_
        refine lv_topi (fun y_24 ey_24 => ?_)
        have ty_24 := xI_and (Y := 13) rfl ey_24 (by decide)
        refine W.cut (σ := Int32) (pcJ := 62) (J := fun y H locs ls => ∃ (G_31 : GS), (0 ≤ y.toInt ∧ y.toInt ≤ 64) ∧ Wd D k A a G_31 H ∧ Bd G_31 ∧ Fr [37, 38, 39] [(6, 3)] G G_31 ∧ Fr [] [] G_21 G_31 ∧ va_S A s.heap H locs ∧ lv_has ls 7 [(4, .int r_20), (3, .int x_13), (0, .ref (a 6)), (1, .int p0), (2, .int p1)]) (stJ := fun y => [.int y]) ?_ (fun hJ_32 => ?_)
        · intro y H locs ls hI
          obtain ⟨w_30, hy⟩ : ∃ q, q = y := ⟨_, rfl⟩
          subst hy
          obtain ⟨G_31, f_34, hW, hB_G_31, hF, hq_33, hS, hl⟩ := hI
          refine lv_istore (lv' := [(5, .int w_30), (4, .int r_20), (3, .int x_13), (0, .ref (a 6)), (1, .int p0), (2, .int p1)]) hx hb dX3_findFor_62 hl (by decide) rfl (fun ls hl => ?_)
          refine lv_iconst (v := 0) hx hb dX3_findFor_64 (by decide) ?_
          refine lv_istore (lv' := [(6, .int 0), (5, .int w_30), (4, .int r_20), (3, .int x_13), (0, .ref (a 6)), (1, .int p0), (2, .int p1)]) hx hb dX3_findFor_65 hl (by decide) rfl (fun ls hl => ?_)
          have qc_41 : (0 : Int32).toInt = 0 := rfl
          refine loop_N (Inv := fun n H locs ls => ∃ (G_35 : GS) (x_39 : Int32) (x_40 : Int32), (n : Int) = 6 - x_39.toInt ∧ (0 ≤ x_39.toInt ∧ x_39.toInt ≤ 6) ∧ Wd D k A a G_35 H ∧ Bd G_35 ∧ Fr [37, 38, 39] [(6, 3)] G G_35 ∧ Fr [37, 39] [(6, 3)] G_31 G_35 ∧ va_S A s.heap H locs ∧ lv_has ls 7 [(6, .int x_39), (5, .int x_40), (4, .int r_20), (3, .int x_13), (0, .ref (a 6)), (1, .int p0), (2, .int p1)]) (fun n_38 H locs ls ih_37 hI => ?_) (6 - 0 : Int).toNat ⟨G_31, 0, w_30, (Int.toNat_of_nonneg (by omega)), ⟨by omega, by omega⟩, hW, hB_G_31, hF, Fr.rf, hS, lv_sub hl [0, 1, 2, 3, 4, 5, 6] rfl⟩
          obtain ⟨G_35, x_39, x_40, hn_43, f_42, hW, hB_G_35, hF, hq_36, hS, hl⟩ := hI
          refine lv_iload hx hb dX3_findFor_67 (lv_at hl 0 rfl) ?_
          refine lv_aload_n hx hb dX3_findFor_69 rfl (lv_at hl 4 rfl) ?_
          refine S_getV (n := 1) (C := RX3) (T := TX3) (N := 5) hx hb hg iX3 hown hK hW kd_6 rfl 4 (by decide) (hg (Cond.fieldLink RX3 21 "SlabWalk$Lines" "paving" "LSlabWalk$Paving;") m353) (fun _ h9 => h9) rfl ((((hq_36.r 6 4 (by decide) (by decide)).trans ((hq_33.r 6 4 (by decide) (by decide)).trans ((hq_22.r 6 4 (by decide) (by decide)).trans ((hq_10.r 6 4 (by decide) (by decide)).trans (hq_3.r 6 4 (by decide) (by decide))))))).trans (hv_6_4)) dX3_findFor_70 ?_
          have b_44 : 0 ≤ (G.1 1 11).toInt ∧ (G.1 1 11).toInt ≤ 6 := hB_G.i 1 11 rfl rfl
          refine S_getI (v := (G.1 1 11)) (C := RX6) (T := TX6) (N := 17) hx hb hg iX6 hown hK hW kd_1 rfl 11 (by decide) (hg (Cond.fieldLink RX3 44 "SlabWalk$Paving" "rules" "I") m193) (fun _ h9 => h9) rfl ((hq_36.i 1 11 (by decide) (by decide)).trans ((hq_33.i 1 11 (by decide) (by decide)).trans ((hq_22.i 1 11 (by decide) (by decide)).trans ((hq_10.i 1 11 (by decide) (by decide)).trans (hq_3.i 1 11 (by decide) (by decide)))))) dX3_findFor_73 ?_
          refine lv_icmp_ge (tgt := 117) hx hb dX3_findFor_76 (by decide) (fun c_45 => ?_) (fun c_45 => ?_)
          · have c_45 : (G.1 1 11).toInt ≤ x_39.toInt := xI_le rfl rfl c_45
            refine lv_aload_n hx hb dX3_findFor_117 rfl (lv_at hl 4 rfl) ?_
            refine S_getR (n := 37) (C := RX3) (T := TX3) (N := 5) hx hb hg iX3 hown hK hW kd_6 rfl 0 (by decide) (hg (Cond.fieldLink RX3 9 "SlabWalk$Lines" "found" "[I") m349) (fun _ h9 => h9) rfl dX3_findFor_118 ?_
            refine lv_iload_n hx hb dX3_findFor_121 rfl (lv_at hl 5 rfl) ?_
            refine lv_sipush (v := 400) hx hb dX3_findFor_122 (by decide) ?_
            refine lv_imul hx hb dX3_findFor_125 ?_
            refine lv_topi (fun y_46 ey_46 => ?_)
            have ty_46 : y_46.toInt = p0.toInt * 400 := xI_mul rfl rfl ey_46 (by omega) (by omega)
            refine lv_iload_n hx hb dX3_findFor_126 rfl (lv_at hl 3 rfl) ?_
            refine lv_iadd hx hb dX3_findFor_127 ?_
            refine lv_topi (fun y_47 ey_47 => ?_)
            have ty_47 : y_47.toInt = y_46.toInt + x_13.toInt := xI_add rfl rfl ey_47 (by omega) (by omega)
            refine lv_iload hx hb dX3_findFor_128 (lv_at hl 1 rfl) ?_
            refine S_iast hx hb hK hW hS kd_37 (vin (by omega) (by omega)) dX3_findFor_130 (fun G_48 H locs eG_48 hW hS => ?_)
            have hB_G_48 : Bd G_48 := hB_G_35.put (lo := (-2147483648)) (hi := 2147483647) eG_48 rfl rfl rfl (tI_rng _).1 (tI_rng _).2 (hB_G_35.2.put eG_48 rfl)
            have hF := hF.put eG_48 (Or.inl (by decide))
            obtain ⟨y_49, ey_49⟩ : ∃ q, q = x_13 + 1 := ⟨_, rfl⟩
            have ty_49 : y_49.toInt = x_13.toInt + 1 := xI_add rfl rfl ey_49 (by omega) (by omega)
            refine lv_iinc (v := y_49) (lv' := [(3, .int y_49), (6, .int x_39), (5, .int x_40), (4, .int r_20), (0, .ref (a 6)), (1, .int p0), (2, .int p1)]) hx hb dX3_findFor_131 hl (k := 3) rfl (by rw [ey_49]; rfl) (by decide) rfl (fun ls hl => ?_)
            refine lv_goto (tgt := 24) hx hb dX3_findFor_134 (by decide) ?_
            exact ih_11 (400 - y_49.toInt : Int).toNat (by omega) _ _ _ ⟨G_48, y_49, (Int.toNat_of_nonneg (by omega)), ⟨by omega, by omega⟩, hW, hB_G_48, hF, (((((Fr.rf.call hq_10 (by decide) (by decide)).call hq_22 (by decide) (by decide)).call hq_33 (by decide) (by decide)).call hq_36 (by decide) (by decide)).put eG_48 (Or.inl (by decide))), hS, lv_sub hl [0, 4, 5, 6] rfl⟩
          · have c_45 : x_39.toInt < (G.1 1 11).toInt := xI_nle rfl rfl c_45
            refine lv_iload hx hb dX3_findFor_79 (lv_at hl 0 rfl) ?_
            refine lv_bipush (v := 6) hx hb dX3_findFor_81 (by decide) ?_
            refine lv_icmp_ge (tgt := 117) hx hb dX3_findFor_83 (by decide) (fun c_50 => ?_) (fun c_50 => ?_)
            · have c_50 : 6 ≤ x_39.toInt := xI_le rfl rfl c_50
              exfalso; omega
            · have c_50 : x_39.toInt < 6 := xI_nle rfl rfl c_50
              refine lv_iload hx hb dX3_findFor_86 (lv_at hl 1 rfl) ?_
              refine lv_aload_n hx hb dX3_findFor_88 rfl (lv_at hl 4 rfl) ?_
              refine lv_iload hx hb dX3_findFor_89 (lv_at hl 0 rfl) ?_
              refine lv_iload hx hb dX3_findFor_91 (lv_at hl 2 rfl) ?_
              refine lv_iload_n hx hb dX3_findFor_93 rfl (lv_at hl 6 rfl) ?_
              refine S_calli (va_runV (As := [.int x_39, .int r_20, .int p1]) (rest := [.int x_40]) ⟨hx, hb, hml, hown, hts⟩ (k_lValue_1 l D k A a z G_35 x_39 r_20 p1 ⟨by omega, by omega⟩ ((((hq_36.r 6 4 (by decide) (by decide)).trans ((hq_33.r 6 4 (by decide) (by decide)).trans ((hq_22.r 6 4 (by decide) (by decide)).trans ((hq_10.r 6 4 (by decide) (by decide)).trans (hq_3.r 6 4 (by decide) (by decide))))))).trans (hv_6_4))) (cwV 3 hts (gd_V hgd m921 m923 m28 m122 m924) rfl rfl rfl (by decide +kernel) ⟨Nat.le_of_ble_eq_true rfl, Nat.le_of_ble_eq_true rfl⟩) (pre_V hW hB_G_35 hK hZ hS kd_6 rfl) rfl rfl hl.1 rfl (lv_room (Nat.le_of_ble_eq_true rfl)) dX3_findFor_94 ⟨Nat.le_of_ble_eq_true rfl, Nat.le_of_ble_eq_true rfl⟩) hS (fun r_51 G_52 H locs hpo hW hS => ?_)
              obtain ⟨hB_G_52, hq_53⟩ := hpo
              have hF := hF.call hq_53 (by decide) (by decide)
              refine lv_if_eq (tgt := 107) hx hb dX3_findFor_97 (by decide) (fun c_55 => ?_) (fun c_55 => ?_)
              · have c_55 : r_51.toInt = 0 := xI_eq rfl rfl c_55
                refine lv_iconst (v := 0) hx hb dX3_findFor_107 (by decide) ?_
                refine lv_ior hx hb dX3_findFor_108 ?_
                refine lv_topi (fun y_56 ey_56 => ?_)
                refine lv_istore (lv' := [(5, .int y_56), (6, .int x_39), (4, .int r_20), (3, .int x_13), (0, .ref (a 6)), (1, .int p0), (2, .int p1)]) hx hb dX3_findFor_109 hl (by decide) rfl (fun ls hl => ?_)
                obtain ⟨y_57, ey_57⟩ : ∃ q, q = x_39 + 1 := ⟨_, rfl⟩
                have ty_57 : y_57.toInt = x_39.toInt + 1 := xI_add rfl rfl ey_57 (by omega) (by omega)
                refine lv_iinc (v := y_57) (lv' := [(6, .int y_57), (5, .int y_56), (4, .int r_20), (3, .int x_13), (0, .ref (a 6)), (1, .int p0), (2, .int p1)]) hx hb dX3_findFor_111 hl (k := 1) rfl (by rw [ey_57]; rfl) (by decide) rfl (fun ls hl => ?_)
                refine lv_goto (tgt := 67) hx hb dX3_findFor_114 (by decide) ?_
                exact ih_37 (6 - y_57.toInt : Int).toNat (by omega) _ _ _ ⟨G_52, y_57, y_56, (Int.toNat_of_nonneg (by omega)), ⟨by omega, by omega⟩, hW, hB_G_52, hF, ((Fr.rf.call hq_36 (by decide) (by decide)).call hq_53 (by decide) (by decide)), hS, lv_sub hl [0, 1, 2, 3, 4, 5, 6] rfl⟩
              · have c_55 : r_51.toInt ≠ 0 := xI_ne rfl rfl c_55
                refine lv_iconst (v := 1) hx hb dX3_findFor_100 (by decide) ?_
                refine lv_iload hx hb dX3_findFor_101 (lv_at hl 0 rfl) ?_
                refine lv_ishl hx hb dX3_findFor_103 ?_
                refine lv_topi (fun y_58 ey_58 => ?_)
                have ty_58 := sh5 (Y := x_39.toInt) rfl ey_58 rfl (by omega) (by omega)
                refine lv_goto (tgt := 108) hx hb dX3_findFor_104 (by decide) ?_
                refine lv_ior hx hb dX3_findFor_108 ?_
                refine lv_topi (fun y_59 ey_59 => ?_)
                refine lv_istore (lv' := [(5, .int y_59), (6, .int x_39), (4, .int r_20), (3, .int x_13), (0, .ref (a 6)), (1, .int p0), (2, .int p1)]) hx hb dX3_findFor_109 hl (by decide) rfl (fun ls hl => ?_)
                obtain ⟨y_60, ey_60⟩ : ∃ q, q = x_39 + 1 := ⟨_, rfl⟩
                have ty_60 : y_60.toInt = x_39.toInt + 1 := xI_add rfl rfl ey_60 (by omega) (by omega)
                refine lv_iinc (v := y_60) (lv' := [(6, .int y_60), (5, .int y_59), (4, .int r_20), (3, .int x_13), (0, .ref (a 6)), (1, .int p0), (2, .int p1)]) hx hb dX3_findFor_111 hl (k := 1) rfl (by rw [ey_60]; rfl) (by decide) rfl (fun ls hl => ?_)
                refine lv_goto (tgt := 67) hx hb dX3_findFor_114 (by decide) ?_
                exact ih_37 (6 - y_60.toInt : Int).toNat (by omega) _ _ _ ⟨G_52, y_60, y_59, (Int.toNat_of_nonneg (by omega)), ⟨by omega, by omega⟩, hW, hB_G_52, hF, ((Fr.rf.call hq_36 (by decide) (by decide)).call hq_53 (by decide) (by decide)), hS, lv_sub hl [0, 1, 2, 3, 4, 5, 6] rfl⟩
        refine lv_if_eq (tgt := 61) hx hb dX3_findFor_53 (by decide) (fun c_61 => ?_) (fun c_61 => ?_)
        · have c_61 : y_24.toInt = 0 := xI_eq rfl rfl c_61
          refine lv_iconst (v := 0) hx hb dX3_findFor_61 (by decide) ?_
          have qc_62 : (0 : Int32).toInt = 0 := rfl
          exact hJ_32 0 _ _ _ ⟨G_21, ⟨by omega, by omega⟩, hW, hB_G_21, hF, Fr.rf, hS, lv_sub hl [0, 1, 2, 3, 4] rfl⟩
        · have c_61 : y_24.toInt ≠ 0 := xI_ne rfl rfl c_61
          refine lv_bipush (v := 64) hx hb dX3_findFor_56 (by decide) ?_
          refine lv_goto (tgt := 62) hx hb dX3_findFor_58 (by decide) ?_
          have qc_63 : (64 : Int32).toInt = 64 := rfl
          exact hJ_32 64 _ _ _ ⟨G_21, ⟨by omega, by omega⟩, hW, hB_G_21, hF, Fr.rf, hS, lv_sub hl [0, 1, 2, 3, 4] rfl⟩
    · have c_8 : y_7.toInt = p1.toInt := xI_eq rfl rfl c_8
      exact W.vret hx hb hr (fun t ht _ => ⟨⟨G_2, rfl, ⟨hB_G_2, hF⟩, wd_t ht hW⟩, hS.F ht⟩) hS.2.2 dX3_findFor_21

set_option maxHeartbeats 4000000 in
set_option maxRecDepth 100000 in
theorem k_lIsLine_1 (l : Launch) (D : va_G) (k : KT) (A : Nat → Prop) (a : Nat → Nat) (z : SK) (G : GS) (p0 : Int32) (p1 : Int32) (p2 : Int32) (hv_6_4 : G.2.2 6 4 = 1) : Met l yX3_isLine (WS yX3_isLine cX3_isLine 4 (some .boolean)) ({ frames := 2, cells := 0, slots := 0, locals := 43 }) (va_Pc [.ref (a 6), .int p0, .int p1, .int p2] (cW D k A a z G)) (va_Qi (fun (r : Int32) (G1 : GS) => Bd G1 ∧ Fr [] [] G G1 ∧ (0 ≤ r.toInt ∧ r.toInt ≤ 1)) (fun (G1 : GS) t => Wd D k A a G1 t.heap) A) 0 0 A := by
  refine Met.ofW (cc := cX3_isLine) (maxL := 4) (ret := (some .boolean)) (by decide) rfl ?_
  intro p e s m args below meth c s₁ B hml hv
  obtain ⟨rfl, hW, hB_G, hK, hZ⟩ := hv
  have hx := B.exec
  have hb := B.bytes
  have hr := B.returns
  have hts := atoms_spec (ws := WS yX3_isLine cX3_isLine 4 (some .boolean)) B.pre
  have hgd : ∀ w ∈ gd, w ∈ WS yX3_isLine cX3_isLine 4 (some .boolean) := fun w h => List.mem_cons_of_mem _ h
  have hg : ∀ w ∈ gd, w.before _ s = true := fun w h => hts w (hgd w h)
  have hown : s.vm.findClass RX3 = some m.cls := findClass_of_methodNamed B.named
  have hS : va_S A s.heap s.heap [] := va_S.rf
  have hF : Fr [] [] G G := Fr.rf
  have hl := lv_entry ([.ref (a 6), .int p0, .int p1, .int p2]) (n := 4) (Nat.le_of_ble_eq_true rfl)
  rw [lg_entry_eq]
  generalize (lg_sl ([.ref (a 6), .int p0, .int p1, .int p2]) ++ List.replicate (4 - (lg_sl ([.ref (a 6), .int p0, .int p1, .int p2])).length) Slot.unset).toArray = ls at hl ⊢
  have hl : lv_has ls 4 [(0, .ref (a 6)), (1, .int p0), (2, .int p1), (3, .int p2)] := hl
  refine lv_aload_n hx hb dX3_isLine_0 rfl (lv_at hl 0 rfl) ?_
  refine S_getV (n := 1) (C := RX3) (T := TX3) (N := 5) hx hb hg iX3 hown hK hW kd_6 rfl 4 (by decide) (hg (Cond.fieldLink RX3 21 "SlabWalk$Lines" "paving" "LSlabWalk$Paving;") m353) (fun _ h9 => h9) rfl hv_6_4 dX3_isLine_1 ?_
  refine lv_iload_n hx hb dX3_isLine_4 rfl (lv_at hl 1 rfl) ?_
  refine lv_iload_n hx hb dX3_isLine_5 rfl (lv_at hl 3 rfl) ?_
  refine S_calli (va_runV (As := [.int p0, .int p2]) (rest := []) ⟨hx, hb, hml, hown, hts⟩ (k_hasInch_1 l D k A a z G p0 p2 ) (cwV 2 hts (gd_V hgd m944 m883 m884 m118 m885) rfl rfl rfl (by decide +kernel) ⟨Nat.le_of_ble_eq_true rfl, Nat.le_of_ble_eq_true rfl⟩) (pre_V hW hB_G hK hZ hS kd_1 rfl) rfl rfl hl.1 rfl (lv_room (Nat.le_of_ble_eq_true rfl)) dX3_isLine_6 ⟨Nat.le_of_ble_eq_true rfl, Nat.le_of_ble_eq_true rfl⟩) hS (fun r_1 G_2 H locs hpo hW hS => ?_)
  obtain ⟨hB_G_2, hq_3, f_5, hp_4⟩ := hpo
  have hF := hF.call hq_3 (by decide) (by decide)
  refine lv_if_eq (tgt := 42) hx hb dX3_isLine_9 (by decide) (fun c_6 => ?_) (fun c_6 => ?_)
  · have c_6 : r_1.toInt = 0 := xI_eq rfl rfl c_6
    refine lv_iconst (v := 0) hx hb dX3_isLine_42 (by decide) ?_
    exact W.zret (v := 0) hx hb hr (by decide) (fun t ht _ => ⟨⟨0, G_2, rfl, ⟨hB_G_2, hF, ⟨by decide, by decide⟩⟩, wd_t ht hW⟩, hS.F ht⟩) hS.2.2 dX3_isLine_43
  · have c_6 : r_1.toInt ≠ 0 := xI_ne rfl rfl c_6
    refine lv_aload_n hx hb dX3_isLine_12 rfl (lv_at hl 0 rfl) ?_
    refine S_getR (n := 37) (C := RX3) (T := TX3) (N := 5) hx hb hg iX3 hown hK hW kd_6 rfl 0 (by decide) (hg (Cond.fieldLink RX3 9 "SlabWalk$Lines" "found" "[I") m349) (fun _ h9 => h9) rfl dX3_isLine_13 ?_
    refine lv_iload_n hx hb dX3_isLine_16 rfl (lv_at hl 1 rfl) ?_
    refine lv_sipush (v := 400) hx hb dX3_isLine_17 (by decide) ?_
    refine lv_imul hx hb dX3_isLine_20 ?_
    refine lv_topi (fun y_7 ey_7 => ?_)
    have ty_7 : y_7.toInt = p0.toInt * 400 := xI_mul rfl rfl ey_7 (by omega) (by omega)
    refine lv_iload_n hx hb dX3_isLine_21 rfl (lv_at hl 3 rfl) ?_
    refine lv_iadd hx hb dX3_isLine_22 ?_
    refine lv_topi (fun y_8 ey_8 => ?_)
    have ty_8 : y_8.toInt = y_7.toInt + p2.toInt := xI_add rfl rfl ey_8 (by omega) (by omega)
    refine S_iald hx hb hK hW kd_37 (vin (by omega) (by omega)) dX3_isLine_23 (fun y_9 ey_9 => ?_)
    refine lv_iload_n hx hb dX3_isLine_24 rfl (lv_at hl 2 rfl) ?_
    refine lv_if_ne (tgt := 33) hx hb dX3_isLine_25 (by decide) (fun c_10 => ?_) (fun c_10 => ?_)
    · have c_10 : p1.toInt ≠ 0 := xI_ne rfl rfl c_10
      refine lv_iload_n hx hb dX3_isLine_33 rfl (lv_at hl 2 rfl) ?_
      refine lv_iand hx hb dX3_isLine_34 ?_
      refine lv_topi (fun y_11 ey_11 => ?_)
      refine lv_if_eq (tgt := 42) hx hb dX3_isLine_35 (by decide) (fun c_12 => ?_) (fun c_12 => ?_)
      · have c_12 : y_11.toInt = 0 := xI_eq rfl rfl c_12
        refine lv_iconst (v := 0) hx hb dX3_isLine_42 (by decide) ?_
        exact W.zret (v := 0) hx hb hr (by decide) (fun t ht _ => ⟨⟨0, G_2, rfl, ⟨hB_G_2, hF, ⟨by decide, by decide⟩⟩, wd_t ht hW⟩, hS.F ht⟩) hS.2.2 dX3_isLine_43
      · have c_12 : y_11.toInt ≠ 0 := xI_ne rfl rfl c_12
        refine lv_iconst (v := 1) hx hb dX3_isLine_38 (by decide) ?_
        refine lv_goto (tgt := 43) hx hb dX3_isLine_39 (by decide) ?_
        exact W.zret (v := 1) hx hb hr (by decide) (fun t ht _ => ⟨⟨1, G_2, rfl, ⟨hB_G_2, hF, ⟨by decide, by decide⟩⟩, wd_t ht hW⟩, hS.F ht⟩) hS.2.2 dX3_isLine_43
    · have c_10 : p1.toInt = 0 := xI_eq rfl rfl c_10
      refine lv_bipush (v := 64) hx hb dX3_isLine_28 (by decide) ?_
      refine lv_goto (tgt := 34) hx hb dX3_isLine_30 (by decide) ?_
      refine lv_iand hx hb dX3_isLine_34 ?_
      refine lv_topi (fun y_13 ey_13 => ?_)
      have ty_13 := xI_and (Y := 64) rfl ey_13 (by decide)
      refine lv_if_eq (tgt := 42) hx hb dX3_isLine_35 (by decide) (fun c_14 => ?_) (fun c_14 => ?_)
      · have c_14 : y_13.toInt = 0 := xI_eq rfl rfl c_14
        refine lv_iconst (v := 0) hx hb dX3_isLine_42 (by decide) ?_
        exact W.zret (v := 0) hx hb hr (by decide) (fun t ht _ => ⟨⟨0, G_2, rfl, ⟨hB_G_2, hF, ⟨by decide, by decide⟩⟩, wd_t ht hW⟩, hS.F ht⟩) hS.2.2 dX3_isLine_43
      · have c_14 : y_13.toInt ≠ 0 := xI_ne rfl rfl c_14
        refine lv_iconst (v := 1) hx hb dX3_isLine_38 (by decide) ?_
        refine lv_goto (tgt := 43) hx hb dX3_isLine_39 (by decide) ?_
        exact W.zret (v := 1) hx hb hr (by decide) (fun t ht _ => ⟨⟨1, G_2, rfl, ⟨hB_G_2, hF, ⟨by decide, by decide⟩⟩, wd_t ht hW⟩, hS.F ht⟩) hS.2.2 dX3_isLine_43

set_option maxHeartbeats 4000000 in
set_option maxRecDepth 100000 in
theorem k_lIsLawful_1 (l : Launch) (D : va_G) (k : KT) (A : Nat → Prop) (a : Nat → Nat) (z : SK) (G : GS) (p0 : Int32) (p1 : Int32) (p2 : Int32) (p3 : Int32) (hv_6_4 : G.2.2 6 4 = 1) : Met l yX3_isLawful (WS yX3_isLawful cX3_isLawful 6 (some .boolean)) ({ frames := 3, cells := 0, slots := 0, locals := 66 }) (va_Pc [.ref (a 6), .int p0, .int p1, .int p2, .int p3] (cW D k A a z G)) (va_Qi (fun (r : Int32) (G1 : GS) => Bd G1 ∧ Fr [] [] G G1 ∧ (0 ≤ r.toInt ∧ r.toInt ≤ 1)) (fun (G1 : GS) t => Wd D k A a G1 t.heap) A) 0 0 A := by
  refine Met.ofW (cc := cX3_isLawful) (maxL := 6) (ret := (some .boolean)) (by decide) rfl ?_
  intro p e s m args below meth c s₁ B hml hv
  obtain ⟨rfl, hW, hB_G, hK, hZ⟩ := hv
  have hx := B.exec
  have hb := B.bytes
  have hr := B.returns
  have hts := atoms_spec (ws := WS yX3_isLawful cX3_isLawful 6 (some .boolean)) B.pre
  have hgd : ∀ w ∈ gd, w ∈ WS yX3_isLawful cX3_isLawful 6 (some .boolean) := fun w h => List.mem_cons_of_mem _ h
  have hg : ∀ w ∈ gd, w.before _ s = true := fun w h => hts w (hgd w h)
  have hown : s.vm.findClass RX3 = some m.cls := findClass_of_methodNamed B.named
  have hS : va_S A s.heap s.heap [] := va_S.rf
  have hF : Fr [] [] G G := Fr.rf
  have hl := lv_entry ([.ref (a 6), .int p0, .int p1, .int p2, .int p3]) (n := 6) (Nat.le_of_ble_eq_true rfl)
  rw [lg_entry_eq]
  generalize (lg_sl ([.ref (a 6), .int p0, .int p1, .int p2, .int p3]) ++ List.replicate (6 - (lg_sl ([.ref (a 6), .int p0, .int p1, .int p2, .int p3])).length) Slot.unset).toArray = ls at hl ⊢
  have hl : lv_has ls 6 [(0, .ref (a 6)), (1, .int p0), (2, .int p1), (3, .int p2), (4, .int p3)] := hl
  refine lv_aload_n hx hb dX3_isLawful_0 rfl (lv_at hl 0 rfl) ?_
  refine S_getV (n := 1) (C := RX3) (T := TX3) (N := 5) hx hb hg iX3 hown hK hW kd_6 rfl 4 (by decide) (hg (Cond.fieldLink RX3 21 "SlabWalk$Lines" "paving" "LSlabWalk$Paving;") m353) (fun _ h9 => h9) rfl hv_6_4 dX3_isLawful_1 ?_
  refine lv_iload_n hx hb dX3_isLawful_4 rfl (lv_at hl 1 rfl) ?_
  refine lv_iload_n hx hb dX3_isLawful_5 rfl (lv_at hl 2 rfl) ?_
  refine lv_iload hx hb dX3_isLawful_6 (lv_at hl 4 rfl) ?_
  refine S_calli (va_runV (As := [.int p0, .int p1, .int p3]) (rest := []) ⟨hx, hb, hml, hown, hts⟩ (k_stands_1 l D k A a z G p0 p1 p3 ) (cwV 3 hts (gd_V hgd m965 m966 m967 m118 m968) rfl rfl rfl (by decide +kernel) ⟨Nat.le_of_ble_eq_true rfl, Nat.le_of_ble_eq_true rfl⟩) (pre_V hW hB_G hK hZ hS kd_1 rfl) rfl rfl hl.1 rfl (lv_room (Nat.le_of_ble_eq_true rfl)) dX3_isLawful_8 ⟨Nat.le_of_ble_eq_true rfl, Nat.le_of_ble_eq_true rfl⟩) hS (fun r_1 G_2 H locs hpo hW hS => ?_)
  obtain ⟨hB_G_2, hq_3, f_5, hp_4⟩ := hpo
  have hF := hF.call hq_3 (by decide) (by decide)
  refine lv_if_ne (tgt := 16) hx hb dX3_isLawful_11 (by decide) (fun c_6 => ?_) (fun c_6 => ?_)
  · have c_6 : r_1.toInt ≠ 0 := xI_ne rfl rfl c_6
    refine lv_iload hx hb dX3_isLawful_16 (lv_at hl 4 rfl) ?_
    refine lv_istore (lv' := [(5, .int p3), (0, .ref (a 6)), (1, .int p0), (2, .int p1), (3, .int p2), (4, .int p3)]) hx hb dX3_isLawful_18 hl (by decide) rfl (fun ls hl => ?_)
    refine loop_N (Inv := fun n H locs ls => ∃ (G_7 : GS) (x_11 : Int32), (n : Int) = 412 - x_11.toInt ∧ (0 ≤ x_11.toInt ∧ x_11.toInt ≤ 412) ∧ Wd D k A a G_7 H ∧ Bd G_7 ∧ Fr [] [] G G_7 ∧ Fr [] [] G_2 G_7 ∧ va_S A s.heap H locs ∧ lv_has ls 6 [(5, .int x_11), (0, .ref (a 6)), (1, .int p0), (2, .int p1), (3, .int p2), (4, .int p3)]) (fun n_10 H locs ls ih_9 hI => ?_) (412 - p3.toInt : Int).toNat ⟨G_2, p3, (Int.toNat_of_nonneg (by omega)), ⟨by omega, by omega⟩, hW, hB_G_2, hF, Fr.rf, hS, lv_sub hl [0, 1, 2, 3, 4, 5] rfl⟩
    obtain ⟨G_7, x_11, hn_13, f_12, hW, hB_G_7, hF, hq_8, hS, hl⟩ := hI
    refine lv_iload hx hb dX3_isLawful_20 (lv_at hl 0 rfl) ?_
    refine lv_iload hx hb dX3_isLawful_22 (lv_at hl 5 rfl) ?_
    refine lv_aload_n hx hb dX3_isLawful_24 rfl (lv_at hl 1 rfl) ?_
    refine S_getV (n := 1) (C := RX3) (T := TX3) (N := 5) hx hb hg iX3 hown hK hW kd_6 rfl 4 (by decide) (hg (Cond.fieldLink RX3 21 "SlabWalk$Lines" "paving" "LSlabWalk$Paving;") m353) (fun _ h9 => h9) rfl ((((hq_8.r 6 4 (by decide) (by decide)).trans (hq_3.r 6 4 (by decide) (by decide)))).trans (hv_6_4)) dX3_isLawful_25 ?_
    refine S_getR (n := 12) (C := RX6) (T := TX6) (N := 17) hx hb hg iX6 hown hK hW kd_1 rfl 2 (by decide) (hg (Cond.fieldLink RX3 60 "SlabWalk$Paving" "foot" "[I") m164) (fun _ h9 => h9) rfl dX3_isLawful_28 ?_
    refine lv_iload_n hx hb dX3_isLawful_31 rfl (lv_at hl 2 rfl) ?_
    refine S_iald hx hb hK hW kd_12 (vin (by omega) (by omega)) dX3_isLawful_32 (fun y_14 ey_14 => ?_)
    have ty_14 : 0 ≤ y_14.toInt ∧ y_14.toInt ≤ 12 := hB_G_7.v ey_14 rfl rfl
    refine lv_iadd hx hb dX3_isLawful_33 ?_
    refine lv_topi (fun y_15 ey_15 => ?_)
    have ty_15 : y_15.toInt = p3.toInt + y_14.toInt := xI_add rfl rfl ey_15 (by omega) (by omega)
    refine lv_icmp_ge (tgt := 56) hx hb dX3_isLawful_34 (by decide) (fun c_16 => ?_) (fun c_16 => ?_)
    · have c_16 : y_15.toInt ≤ x_11.toInt := xI_le rfl rfl c_16
      refine lv_iconst (v := 1) hx hb dX3_isLawful_56 (by decide) ?_
      exact W.zret (v := 1) hx hb hr (by decide) (fun t ht _ => ⟨⟨1, G_7, rfl, ⟨hB_G_7, hF, ⟨by decide, by decide⟩⟩, wd_t ht hW⟩, hS.F ht⟩) hS.2.2 dX3_isLawful_57
    · have c_16 : x_11.toInt < y_15.toInt := xI_nle rfl rfl c_16
      refine lv_aload_n hx hb dX3_isLawful_37 rfl (lv_at hl 1 rfl) ?_
      refine lv_iload_n hx hb dX3_isLawful_38 rfl (lv_at hl 3 rfl) ?_
      refine lv_iload_n hx hb dX3_isLawful_39 rfl (lv_at hl 4 rfl) ?_
      refine lv_iload hx hb dX3_isLawful_40 (lv_at hl 0 rfl) ?_
      refine S_calli (va_runV (As := [.int p1, .int p2, .int x_11]) (rest := []) ⟨hx, hb, hml, hown, hts⟩ (k_lIsLine_1 l D k A a z G_7 p1 p2 x_11 ((((hq_8.r 6 4 (by decide) (by decide)).trans (hq_3.r 6 4 (by decide) (by decide)))).trans (hv_6_4))) (cwV 3 hts (gd_V hgd m970 m941 m942 m122 m943) rfl rfl rfl (by decide +kernel) ⟨Nat.le_of_ble_eq_true rfl, Nat.le_of_ble_eq_true rfl⟩) (pre_V hW hB_G_7 hK hZ hS kd_6 rfl) rfl rfl hl.1 rfl (lv_room (Nat.le_of_ble_eq_true rfl)) dX3_isLawful_42 ⟨Nat.le_of_ble_eq_true rfl, Nat.le_of_ble_eq_true rfl⟩) hS (fun r_17 G_18 H locs hpo hW hS => ?_)
      obtain ⟨hB_G_18, hq_19, f_21⟩ := hpo
      have hF := hF.call hq_19 (by decide) (by decide)
      refine lv_if_eq (tgt := 50) hx hb dX3_isLawful_45 (by decide) (fun c_22 => ?_) (fun c_22 => ?_)
      · have c_22 : r_17.toInt = 0 := xI_eq rfl rfl c_22
        obtain ⟨y_23, ey_23⟩ : ∃ q, q = x_11 + 1 := ⟨_, rfl⟩
        have ty_23 : y_23.toInt = x_11.toInt + 1 := xI_add rfl rfl ey_23 (by omega) (by omega)
        refine lv_iinc (v := y_23) (lv' := [(5, .int y_23), (0, .ref (a 6)), (1, .int p0), (2, .int p1), (3, .int p2), (4, .int p3)]) hx hb dX3_isLawful_50 hl (k := 0) rfl (by rw [ey_23]; rfl) (by decide) rfl (fun ls hl => ?_)
        refine lv_goto (tgt := 20) hx hb dX3_isLawful_53 (by decide) ?_
        exact ih_9 (412 - y_23.toInt : Int).toNat (by omega) _ _ _ ⟨G_18, y_23, (Int.toNat_of_nonneg (by omega)), ⟨by omega, by omega⟩, hW, hB_G_18, hF, ((Fr.rf.call hq_8 (by decide) (by decide)).call hq_19 (by decide) (by decide)), hS, lv_sub hl [0, 1, 2, 3, 4, 5] rfl⟩
      · have c_22 : r_17.toInt ≠ 0 := xI_ne rfl rfl c_22
        refine lv_iconst (v := 0) hx hb dX3_isLawful_48 (by decide) ?_
        exact W.zret (v := 0) hx hb hr (by decide) (fun t ht _ => ⟨⟨0, G_18, rfl, ⟨hB_G_18, hF, ⟨by decide, by decide⟩⟩, wd_t ht hW⟩, hS.F ht⟩) hS.2.2 dX3_isLawful_49
  · have c_6 : r_1.toInt = 0 := xI_eq rfl rfl c_6
    refine lv_iconst (v := 0) hx hb dX3_isLawful_14 (by decide) ?_
    exact W.zret (v := 0) hx hb hr (by decide) (fun t ht _ => ⟨⟨0, G_2, rfl, ⟨hB_G_2, hF, ⟨by decide, by decide⟩⟩, wd_t ht hW⟩, hS.F ht⟩) hS.2.2 dX3_isLawful_15
