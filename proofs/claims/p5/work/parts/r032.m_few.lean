theorem m93 : Cond.selects RX12 yX12_layNeeds yX12_layNeeds ∈ gd := gd_mem 93 (by decide +kernel) (by decide +kernel)
theorem m108 : Cond.selects RX12 yX12_layWays yX12_layWays ∈ gd := gd_mem 108 (by decide +kernel) (by decide +kernel)
theorem m109 : Cond.selects RX12 yX12_hasWay yX12_hasWay ∈ gd := gd_mem 109 (by decide +kernel) (by decide +kernel)
theorem m110 : Cond.selects RX12 yX12_layWins yX12_layWins ∈ gd := gd_mem 110 (by decide +kernel) (by decide +kernel)
theorem m1846 : Cond.methodLink RX12 509 yX12_layNeeds ∈ gd := gd_mem 1846 (by decide +kernel) (by decide +kernel)
theorem m1848 : Cond.instanceMethod yX12_layNeeds ∈ gd := gd_mem 1848 (by decide +kernel) (by decide +kernel)
theorem m1849 : Cond.code yX12_layNeeds cX12_layNeeds 3 none ∈ gd := gd_mem 1849 (by decide +kernel) (by decide +kernel)
theorem m1971 : Cond.methodLink RX12 575 yX12_layWays ∈ gd := gd_mem 1971 (by decide +kernel) (by decide +kernel)
theorem m1973 : Cond.instanceMethod yX12_layWays ∈ gd := gd_mem 1973 (by decide +kernel) (by decide +kernel)
theorem m1974 : Cond.code yX12_layWays cX12_layWays 4 none ∈ gd := gd_mem 1974 (by decide +kernel) (by decide +kernel)
theorem m1975 : Cond.methodLink RX12 572 yX12_hasWay ∈ gd := gd_mem 1975 (by decide +kernel) (by decide +kernel)
theorem m1977 : Cond.instanceMethod yX12_hasWay ∈ gd := gd_mem 1977 (by decide +kernel) (by decide +kernel)
theorem m1978 : Cond.code yX12_hasWay cX12_hasWay 6 (some .boolean) ∈ gd := gd_mem 1978 (by decide +kernel) (by decide +kernel)
theorem m1979 : Cond.methodLink RX12 578 yX12_layWins ∈ gd := gd_mem 1979 (by decide +kernel) (by decide +kernel)
theorem m1981 : Cond.instanceMethod yX12_layWins ∈ gd := gd_mem 1981 (by decide +kernel) (by decide +kernel)
theorem m1982 : Cond.code yX12_layWins cX12_layWins 4 none ∈ gd := gd_mem 1982 (by decide +kernel) (by decide +kernel)
theorem dX12_fewest_0 : decode cX12_fewest 0 = .ok (.aload_n 0, 1) := by decide +kernel
theorem dX12_fewest_1 : decode cX12_fewest 1 = .ok (.iconst 0, 1) := by decide +kernel
theorem dX12_fewest_2 : decode cX12_fewest 2 = .ok (.putfield 446, 3) := by decide +kernel
theorem dX12_fewest_5 : decode cX12_fewest 5 = .ok (.aload_n 0, 1) := by decide +kernel
theorem dX12_fewest_6 : decode cX12_fewest 6 = .ok (.iload_n 1, 1) := by decide +kernel
theorem dX12_fewest_7 : decode cX12_fewest 7 = .ok (.iload_n 2, 1) := by decide +kernel
theorem dX12_fewest_8 : decode cX12_fewest 8 = .ok (.iload_n 3, 1) := by decide +kernel
theorem dX12_fewest_9 : decode cX12_fewest 9 = .ok (.invokevirtual 490, 3) := by decide +kernel
theorem dX12_fewest_12 : decode cX12_fewest 12 = .ok (.ifCond .eq 13, 3) := by decide +kernel
theorem dX12_fewest_15 : decode cX12_fewest 15 = .ok (.iload 4, 2) := by decide +kernel
theorem dX12_fewest_17 : decode cX12_fewest 17 = .ok (.iconst 0, 1) := by decide +kernel
theorem dX12_fewest_18 : decode cX12_fewest 18 = .ok (.iconst 2, 1) := by decide +kernel
theorem dX12_fewest_19 : decode cX12_fewest 19 = .ok (.invokestatic 449, 3) := by decide +kernel
theorem dX12_fewest_22 : decode cX12_fewest 22 = .ok (.ifCond .ne 5, 3) := by decide +kernel
theorem dX12_fewest_25 : decode cX12_fewest 25 = .ok (.iconst (-1), 1) := by decide +kernel
theorem dX12_fewest_26 : decode cX12_fewest 26 = .ok (.ireturn, 1) := by decide +kernel
theorem dX12_fewest_27 : decode cX12_fewest 27 = .ok (.aload_n 0, 1) := by decide +kernel
theorem dX12_fewest_28 : decode cX12_fewest 28 = .ok (.iload_n 1, 1) := by decide +kernel
theorem dX12_fewest_29 : decode cX12_fewest 29 = .ok (.iload_n 2, 1) := by decide +kernel
theorem dX12_fewest_30 : decode cX12_fewest 30 = .ok (.iload_n 3, 1) := by decide +kernel
theorem dX12_fewest_31 : decode cX12_fewest 31 = .ok (.invokevirtual 493, 3) := by decide +kernel
theorem dX12_fewest_34 : decode cX12_fewest 34 = .ok (.aload_n 0, 1) := by decide +kernel
theorem dX12_fewest_35 : decode cX12_fewest 35 = .ok (.invokevirtual 509, 3) := by decide +kernel
theorem dX12_fewest_38 : decode cX12_fewest 38 = .ok (.iconst (-1), 1) := by decide +kernel
theorem dX12_fewest_39 : decode cX12_fewest 39 = .ok (.istore 5, 2) := by decide +kernel
theorem dX12_fewest_41 : decode cX12_fewest 41 = .ok (.iconst 0, 1) := by decide +kernel
theorem dX12_fewest_42 : decode cX12_fewest 42 = .ok (.istore 6, 2) := by decide +kernel
theorem dX12_fewest_44 : decode cX12_fewest 44 = .ok (.iload 6, 2) := by decide +kernel
theorem dX12_fewest_46 : decode cX12_fewest 46 = .ok (.aload_n 0, 1) := by decide +kernel
theorem dX12_fewest_47 : decode cX12_fewest 47 = .ok (.getfield 478, 3) := by decide +kernel
theorem dX12_fewest_50 : decode cX12_fewest 50 = .ok (.if_icmp .ge 54, 3) := by decide +kernel
theorem dX12_fewest_53 : decode cX12_fewest 53 = .ok (.aload_n 0, 1) := by decide +kernel
theorem dX12_fewest_54 : decode cX12_fewest 54 = .ok (.iload 6, 2) := by decide +kernel
theorem dX12_fewest_56 : decode cX12_fewest 56 = .ok (.iconst 0, 1) := by decide +kernel
theorem dX12_fewest_57 : decode cX12_fewest 57 = .ok (.iload 4, 2) := by decide +kernel
theorem dX12_fewest_59 : decode cX12_fewest 59 = .ok (.invokevirtual 503, 3) := by decide +kernel
theorem dX12_fewest_62 : decode cX12_fewest 62 = .ok (.ldc_w 502, 3) := by decide +kernel
theorem dX12_fewest_65 : decode cX12_fewest 65 = .ok (.if_icmp .ge 33, 3) := by decide +kernel
theorem dX12_fewest_68 : decode cX12_fewest 68 = .ok (.iload 5, 2) := by decide +kernel
theorem dX12_fewest_70 : decode cX12_fewest 70 = .ok (.ifCond .lt 24, 3) := by decide +kernel
theorem dX12_fewest_73 : decode cX12_fewest 73 = .ok (.aload_n 0, 1) := by decide +kernel
theorem dX12_fewest_74 : decode cX12_fewest 74 = .ok (.iload 6, 2) := by decide +kernel
theorem dX12_fewest_76 : decode cX12_fewest 76 = .ok (.iconst 0, 1) := by decide +kernel
theorem dX12_fewest_77 : decode cX12_fewest 77 = .ok (.iload 4, 2) := by decide +kernel
theorem dX12_fewest_79 : decode cX12_fewest 79 = .ok (.invokevirtual 503, 3) := by decide +kernel
theorem dX12_fewest_82 : decode cX12_fewest 82 = .ok (.aload_n 0, 1) := by decide +kernel
theorem dX12_fewest_83 : decode cX12_fewest 83 = .ok (.iload 5, 2) := by decide +kernel
theorem dX12_fewest_85 : decode cX12_fewest 85 = .ok (.iconst 0, 1) := by decide +kernel
theorem dX12_fewest_86 : decode cX12_fewest 86 = .ok (.iload 4, 2) := by decide +kernel
theorem dX12_fewest_88 : decode cX12_fewest 88 = .ok (.invokevirtual 503, 3) := by decide +kernel
theorem dX12_fewest_91 : decode cX12_fewest 91 = .ok (.if_icmp .ge 7, 3) := by decide +kernel
theorem dX12_fewest_94 : decode cX12_fewest 94 = .ok (.iload 6, 2) := by decide +kernel
theorem dX12_fewest_96 : decode cX12_fewest 96 = .ok (.istore 5, 2) := by decide +kernel
theorem dX12_fewest_98 : decode cX12_fewest 98 = .ok (.iinc 6 1, 3) := by decide +kernel
theorem dX12_fewest_101 : decode cX12_fewest 101 = .ok (.goto (-57), 3) := by decide +kernel
theorem dX12_fewest_104 : decode cX12_fewest 104 = .ok (.iload 5, 2) := by decide +kernel
theorem dX12_fewest_106 : decode cX12_fewest 106 = .ok (.ifCond .ge 5, 3) := by decide +kernel
theorem dX12_fewest_109 : decode cX12_fewest 109 = .ok (.iconst (-1), 1) := by decide +kernel
theorem dX12_fewest_110 : decode cX12_fewest 110 = .ok (.ireturn, 1) := by decide +kernel
theorem dX12_fewest_111 : decode cX12_fewest 111 = .ok (.aload_n 0, 1) := by decide +kernel
theorem dX12_fewest_112 : decode cX12_fewest 112 = .ok (.iload 5, 2) := by decide +kernel
theorem dX12_fewest_114 : decode cX12_fewest 114 = .ok (.iconst 0, 1) := by decide +kernel
theorem dX12_fewest_115 : decode cX12_fewest 115 = .ok (.iload 4, 2) := by decide +kernel
theorem dX12_fewest_117 : decode cX12_fewest 117 = .ok (.invokevirtual 503, 3) := by decide +kernel
theorem dX12_fewest_120 : decode cX12_fewest 120 = .ok (.istore 6, 2) := by decide +kernel
theorem dX12_fewest_122 : decode cX12_fewest 122 = .ok (.iload 5, 2) := by decide +kernel
theorem dX12_fewest_124 : decode cX12_fewest 124 = .ok (.istore 7, 2) := by decide +kernel
theorem dX12_fewest_126 : decode cX12_fewest 126 = .ok (.iload 4, 2) := by decide +kernel
theorem dX12_fewest_128 : decode cX12_fewest 128 = .ok (.istore 8, 2) := by decide +kernel
theorem dX12_fewest_130 : decode cX12_fewest 130 = .ok (.aload_n 0, 1) := by decide +kernel
theorem dX12_fewest_131 : decode cX12_fewest 131 = .ok (.iload 7, 2) := by decide +kernel
theorem dX12_fewest_133 : decode cX12_fewest 133 = .ok (.invokevirtual 512, 3) := by decide +kernel
theorem dX12_fewest_136 : decode cX12_fewest 136 = .ok (.aload_n 0, 1) := by decide +kernel
theorem dX12_fewest_137 : decode cX12_fewest 137 = .ok (.getfield 446, 3) := by decide +kernel
theorem dX12_fewest_140 : decode cX12_fewest 140 = .ok (.iload 6, 2) := by decide +kernel
theorem dX12_fewest_142 : decode cX12_fewest 142 = .ok (.if_icmp .ge 101, 3) := by decide +kernel
theorem dX12_fewest_145 : decode cX12_fewest 145 = .ok (.iload 6, 2) := by decide +kernel
theorem dX12_fewest_147 : decode cX12_fewest 147 = .ok (.aload_n 0, 1) := by decide +kernel
theorem dX12_fewest_148 : decode cX12_fewest 148 = .ok (.getfield 446, 3) := by decide +kernel
theorem dX12_fewest_151 : decode cX12_fewest 151 = .ok (.isub, 1) := by decide +kernel
theorem dX12_fewest_152 : decode cX12_fewest 152 = .ok (.istore 9, 2) := by decide +kernel
theorem dX12_fewest_154 : decode cX12_fewest 154 = .ok (.iload 8, 2) := by decide +kernel
theorem dX12_fewest_156 : decode cX12_fewest 156 = .ok (.ifCond .ne 7, 3) := by decide +kernel
theorem dX12_fewest_159 : decode cX12_fewest 159 = .ok (.iconst 0, 1) := by decide +kernel
theorem dX12_fewest_160 : decode cX12_fewest 160 = .ok (.goto 7, 3) := by decide +kernel
theorem dX12_fewest_163 : decode cX12_fewest 163 = .ok (.iconst 3, 1) := by decide +kernel
theorem dX12_fewest_164 : decode cX12_fewest 164 = .ok (.iload 8, 2) := by decide +kernel
theorem dX12_fewest_166 : decode cX12_fewest 166 = .ok (.isub, 1) := by decide +kernel
theorem dX12_fewest_167 : decode cX12_fewest 167 = .ok (.istore 8, 2) := by decide +kernel
theorem dX12_fewest_169 : decode cX12_fewest 169 = .ok (.aload_n 0, 1) := by decide +kernel
theorem dX12_fewest_170 : decode cX12_fewest 170 = .ok (.getfield 475, 3) := by decide +kernel
theorem dX12_fewest_173 : decode cX12_fewest 173 = .ok (.istore 10, 2) := by decide +kernel
theorem dX12_fewest_175 : decode cX12_fewest 175 = .ok (.aload_n 0, 1) := by decide +kernel
theorem dX12_fewest_176 : decode cX12_fewest 176 = .ok (.getfield 115, 3) := by decide +kernel
theorem dX12_fewest_179 : decode cX12_fewest 179 = .ok (.iload 7, 2) := by decide +kernel
theorem dX12_fewest_181 : decode cX12_fewest 181 = .ok (.iload 10, 2) := by decide +kernel
theorem dX12_fewest_183 : decode cX12_fewest 183 = .ok (.iadd, 1) := by decide +kernel
theorem dX12_fewest_184 : decode cX12_fewest 184 = .ok (.baload, 1) := by decide +kernel
theorem dX12_fewest_185 : decode cX12_fewest 185 = .ok (.ifCond .eq 36, 3) := by decide +kernel
theorem dX12_fewest_188 : decode cX12_fewest 188 = .ok (.aload_n 0, 1) := by decide +kernel
theorem dX12_fewest_189 : decode cX12_fewest 189 = .ok (.iload 7, 2) := by decide +kernel
theorem dX12_fewest_191 : decode cX12_fewest 191 = .ok (.iload 10, 2) := by decide +kernel
theorem dX12_fewest_193 : decode cX12_fewest 193 = .ok (.iadd, 1) := by decide +kernel
theorem dX12_fewest_194 : decode cX12_fewest 194 = .ok (.iload 10, 2) := by decide +kernel
theorem dX12_fewest_196 : decode cX12_fewest 196 = .ok (.aload_n 0, 1) := by decide +kernel
theorem dX12_fewest_197 : decode cX12_fewest 197 = .ok (.getfield 478, 3) := by decide +kernel
theorem dX12_fewest_200 : decode cX12_fewest 200 = .ok (.if_icmp .le 7, 3) := by decide +kernel
theorem dX12_fewest_203 : decode cX12_fewest 203 = .ok (.iconst 1, 1) := by decide +kernel
theorem dX12_fewest_204 : decode cX12_fewest 204 = .ok (.goto 4, 3) := by decide +kernel
theorem dX12_fewest_207 : decode cX12_fewest 207 = .ok (.iconst 0, 1) := by decide +kernel
theorem dX12_fewest_208 : decode cX12_fewest 208 = .ok (.invokestatic 348, 3) := by decide +kernel
theorem dX12_fewest_211 : decode cX12_fewest 211 = .ok (.iload 8, 2) := by decide +kernel
theorem dX12_fewest_213 : decode cX12_fewest 213 = .ok (.invokevirtual 503, 3) := by decide +kernel
theorem dX12_fewest_216 : decode cX12_fewest 216 = .ok (.iload 9, 2) := by decide +kernel
theorem dX12_fewest_218 : decode cX12_fewest 218 = .ok (.if_icmp .eq 9, 3) := by decide +kernel
theorem dX12_fewest_221 : decode cX12_fewest 221 = .ok (.iinc 10 1, 3) := by decide +kernel
theorem dX12_fewest_224 : decode cX12_fewest 224 = .ok (.goto (-49), 3) := by decide +kernel
theorem dX12_fewest_227 : decode cX12_fewest 227 = .ok (.iload 7, 2) := by decide +kernel
theorem dX12_fewest_229 : decode cX12_fewest 229 = .ok (.iload 10, 2) := by decide +kernel
theorem dX12_fewest_231 : decode cX12_fewest 231 = .ok (.iadd, 1) := by decide +kernel
theorem dX12_fewest_232 : decode cX12_fewest 232 = .ok (.istore 7, 2) := by decide +kernel
theorem dX12_fewest_234 : decode cX12_fewest 234 = .ok (.aload_n 0, 1) := by decide +kernel
theorem dX12_fewest_235 : decode cX12_fewest 235 = .ok (.iload 7, 2) := by decide +kernel
theorem dX12_fewest_237 : decode cX12_fewest 237 = .ok (.invokevirtual 512, 3) := by decide +kernel
theorem dX12_fewest_240 : decode cX12_fewest 240 = .ok (.goto (-104), 3) := by decide +kernel
theorem dX12_fewest_243 : decode cX12_fewest 243 = .ok (.iload 6, 2) := by decide +kernel
theorem dX12_fewest_245 : decode cX12_fewest 245 = .ok (.ireturn, 1) := by decide +kernel
theorem dX12_hasWay_0 : decode cX12_hasWay 0 = .ok (.aload_n 0, 1) := by decide +kernel
theorem dX12_hasWay_1 : decode cX12_hasWay 1 = .ok (.iload_n 1, 1) := by decide +kernel
theorem dX12_hasWay_2 : decode cX12_hasWay 2 = .ok (.iload_n 2, 1) := by decide +kernel
theorem dX12_hasWay_3 : decode cX12_hasWay 3 = .ok (.iload_n 3, 1) := by decide +kernel
theorem dX12_hasWay_4 : decode cX12_hasWay 4 = .ok (.invokevirtual 493, 3) := by decide +kernel
theorem dX12_hasWay_7 : decode cX12_hasWay 7 = .ok (.aload_n 0, 1) := by decide +kernel
theorem dX12_hasWay_8 : decode cX12_hasWay 8 = .ok (.invokevirtual 509, 3) := by decide +kernel
theorem dX12_hasWay_11 : decode cX12_hasWay 11 = .ok (.iconst 0, 1) := by decide +kernel
theorem dX12_hasWay_12 : decode cX12_hasWay 12 = .ok (.istore 4, 2) := by decide +kernel
theorem dX12_hasWay_14 : decode cX12_hasWay 14 = .ok (.iconst 0, 1) := by decide +kernel
theorem dX12_hasWay_15 : decode cX12_hasWay 15 = .ok (.istore 5, 2) := by decide +kernel
theorem dX12_hasWay_17 : decode cX12_hasWay 17 = .ok (.iload 5, 2) := by decide +kernel
theorem dX12_hasWay_19 : decode cX12_hasWay 19 = .ok (.aload_n 0, 1) := by decide +kernel
theorem dX12_hasWay_20 : decode cX12_hasWay 20 = .ok (.getfield 478, 3) := by decide +kernel
theorem dX12_hasWay_23 : decode cX12_hasWay 23 = .ok (.if_icmp .ge 43, 3) := by decide +kernel
theorem dX12_hasWay_26 : decode cX12_hasWay 26 = .ok (.iload 5, 2) := by decide +kernel
theorem dX12_hasWay_28 : decode cX12_hasWay 28 = .ok (.sipush 400, 3) := by decide +kernel
theorem dX12_hasWay_31 : decode cX12_hasWay 31 = .ok (.if_icmp .ge 35, 3) := by decide +kernel
theorem dX12_hasWay_34 : decode cX12_hasWay 34 = .ok (.iload 4, 2) := by decide +kernel
theorem dX12_hasWay_36 : decode cX12_hasWay 36 = .ok (.ifCond .ne 17, 3) := by decide +kernel
theorem dX12_hasWay_39 : decode cX12_hasWay 39 = .ok (.aload_n 0, 1) := by decide +kernel
theorem dX12_hasWay_40 : decode cX12_hasWay 40 = .ok (.iload 5, 2) := by decide +kernel
theorem dX12_hasWay_42 : decode cX12_hasWay 42 = .ok (.iconst 0, 1) := by decide +kernel
theorem dX12_hasWay_43 : decode cX12_hasWay 43 = .ok (.iconst 0, 1) := by decide +kernel
theorem dX12_hasWay_44 : decode cX12_hasWay 44 = .ok (.invokevirtual 503, 3) := by decide +kernel
theorem dX12_hasWay_47 : decode cX12_hasWay 47 = .ok (.ldc_w 502, 3) := by decide +kernel
theorem dX12_hasWay_50 : decode cX12_hasWay 50 = .ok (.if_icmp .ge 7, 3) := by decide +kernel
theorem dX12_hasWay_53 : decode cX12_hasWay 53 = .ok (.iconst 1, 1) := by decide +kernel
theorem dX12_hasWay_54 : decode cX12_hasWay 54 = .ok (.goto 4, 3) := by decide +kernel
theorem dX12_hasWay_57 : decode cX12_hasWay 57 = .ok (.iconst 0, 1) := by decide +kernel
theorem dX12_hasWay_58 : decode cX12_hasWay 58 = .ok (.istore 4, 2) := by decide +kernel
theorem dX12_hasWay_60 : decode cX12_hasWay 60 = .ok (.iinc 5 1, 3) := by decide +kernel
theorem dX12_hasWay_63 : decode cX12_hasWay 63 = .ok (.goto (-46), 3) := by decide +kernel
theorem dX12_hasWay_66 : decode cX12_hasWay 66 = .ok (.iload 4, 2) := by decide +kernel
theorem dX12_hasWay_68 : decode cX12_hasWay 68 = .ok (.ireturn, 1) := by decide +kernel
theorem dX12_layWays_0 : decode cX12_layWays 0 = .ok (.iconst 0, 1) := by decide +kernel
theorem dX12_layWays_1 : decode cX12_layWays 1 = .ok (.istore_n 3, 1) := by decide +kernel
theorem dX12_layWays_2 : decode cX12_layWays 2 = .ok (.iload_n 3, 1) := by decide +kernel
theorem dX12_layWays_3 : decode cX12_layWays 3 = .ok (.iconst 1, 1) := by decide +kernel
theorem dX12_layWays_4 : decode cX12_layWays 4 = .ok (.aload_n 0, 1) := by decide +kernel
theorem dX12_layWays_5 : decode cX12_layWays 5 = .ok (.getfield 431, 3) := by decide +kernel
theorem dX12_layWays_8 : decode cX12_layWays 8 = .ok (.ishl, 1) := by decide +kernel
theorem dX12_layWays_9 : decode cX12_layWays 9 = .ok (.if_icmp .ge 22, 3) := by decide +kernel
theorem dX12_layWays_12 : decode cX12_layWays 12 = .ok (.aload_n 0, 1) := by decide +kernel
theorem dX12_layWays_13 : decode cX12_layWays 13 = .ok (.getfield 142, 3) := by decide +kernel
theorem dX12_layWays_16 : decode cX12_layWays 16 = .ok (.iload_n 3, 1) := by decide +kernel
theorem dX12_layWays_17 : decode cX12_layWays 17 = .ok (.aload_n 0, 1) := by decide +kernel
theorem dX12_layWays_18 : decode cX12_layWays 18 = .ok (.iload_n 1, 1) := by decide +kernel
theorem dX12_layWays_19 : decode cX12_layWays 19 = .ok (.iload_n 2, 1) := by decide +kernel
theorem dX12_layWays_20 : decode cX12_layWays 20 = .ok (.iload_n 3, 1) := by decide +kernel
theorem dX12_layWays_21 : decode cX12_layWays 21 = .ok (.invokevirtual 572, 3) := by decide +kernel
theorem dX12_layWays_24 : decode cX12_layWays 24 = .ok (.bastore, 1) := by decide +kernel
theorem dX12_layWays_25 : decode cX12_layWays 25 = .ok (.iinc 3 1, 3) := by decide +kernel
theorem dX12_layWays_28 : decode cX12_layWays 28 = .ok (.goto (-26), 3) := by decide +kernel
theorem dX12_layWays_31 : decode cX12_layWays 31 = .ok (.return_, 1) := by decide +kernel
theorem dX12_leave_0 : decode cX12_leave 0 = .ok (.aload_n 0, 1) := by decide +kernel
theorem dX12_leave_1 : decode cX12_leave 1 = .ok (.iload_n 1, 1) := by decide +kernel
theorem dX12_leave_2 : decode cX12_leave 2 = .ok (.invokevirtual 487, 3) := by decide +kernel
theorem dX12_leave_5 : decode cX12_leave 5 = .ok (.ifCond .eq 11, 3) := by decide +kernel
theorem dX12_leave_8 : decode cX12_leave 8 = .ok (.aload_n 0, 1) := by decide +kernel
theorem dX12_leave_9 : decode cX12_leave 9 = .ok (.iload_n 2, 1) := by decide +kernel
theorem dX12_leave_10 : decode cX12_leave 10 = .ok (.invokevirtual 453, 3) := by decide +kernel
theorem dX12_leave_13 : decode cX12_leave 13 = .ok (.ifCond .ne 5, 3) := by decide +kernel
theorem dX12_leave_16 : decode cX12_leave 16 = .ok (.iconst (-1), 1) := by decide +kernel
theorem dX12_leave_17 : decode cX12_leave 17 = .ok (.ireturn, 1) := by decide +kernel
theorem dX12_leave_18 : decode cX12_leave 18 = .ok (.aload_n 0, 1) := by decide +kernel
theorem dX12_leave_19 : decode cX12_leave 19 = .ok (.iload_n 1, 1) := by decide +kernel
theorem dX12_leave_20 : decode cX12_leave 20 = .ok (.iload_n 2, 1) := by decide +kernel
theorem dX12_leave_21 : decode cX12_leave 21 = .ok (.invokevirtual 575, 3) := by decide +kernel
theorem dX12_leave_24 : decode cX12_leave 24 = .ok (.iconst 0, 1) := by decide +kernel
theorem dX12_leave_25 : decode cX12_leave 25 = .ok (.istore_n 3, 1) := by decide +kernel
theorem dX12_leave_26 : decode cX12_leave 26 = .ok (.iconst 0, 1) := by decide +kernel
theorem dX12_leave_27 : decode cX12_leave 27 = .ok (.istore 4, 2) := by decide +kernel
theorem dX12_leave_29 : decode cX12_leave 29 = .ok (.iload 4, 2) := by decide +kernel
theorem dX12_leave_31 : decode cX12_leave 31 = .ok (.iconst 1, 1) := by decide +kernel
theorem dX12_leave_32 : decode cX12_leave 32 = .ok (.aload_n 0, 1) := by decide +kernel
theorem dX12_leave_33 : decode cX12_leave 33 = .ok (.getfield 431, 3) := by decide +kernel
theorem dX12_leave_36 : decode cX12_leave 36 = .ok (.ishl, 1) := by decide +kernel
theorem dX12_leave_37 : decode cX12_leave 37 = .ok (.if_icmp .ge 22, 3) := by decide +kernel
theorem dX12_leave_40 : decode cX12_leave 40 = .ok (.iload_n 3, 1) := by decide +kernel
theorem dX12_leave_41 : decode cX12_leave 41 = .ok (.aload_n 0, 1) := by decide +kernel
theorem dX12_leave_42 : decode cX12_leave 42 = .ok (.getfield 142, 3) := by decide +kernel
theorem dX12_leave_45 : decode cX12_leave 45 = .ok (.iload 4, 2) := by decide +kernel
theorem dX12_leave_47 : decode cX12_leave 47 = .ok (.baload, 1) := by decide +kernel
theorem dX12_leave_48 : decode cX12_leave 48 = .ok (.invokestatic 348, 3) := by decide +kernel
theorem dX12_leave_51 : decode cX12_leave 51 = .ok (.iadd, 1) := by decide +kernel
theorem dX12_leave_52 : decode cX12_leave 52 = .ok (.istore_n 3, 1) := by decide +kernel
theorem dX12_leave_53 : decode cX12_leave 53 = .ok (.iinc 4 1, 3) := by decide +kernel
theorem dX12_leave_56 : decode cX12_leave 56 = .ok (.goto (-27), 3) := by decide +kernel
theorem dX12_leave_59 : decode cX12_leave 59 = .ok (.iload_n 3, 1) := by decide +kernel
theorem dX12_leave_60 : decode cX12_leave 60 = .ok (.ireturn, 1) := by decide +kernel
theorem dX12_wager_0 : decode cX12_wager 0 = .ok (.aload_n 0, 1) := by decide +kernel
theorem dX12_wager_1 : decode cX12_wager 1 = .ok (.iload_n 1, 1) := by decide +kernel
theorem dX12_wager_2 : decode cX12_wager 2 = .ok (.iload_n 2, 1) := by decide +kernel
theorem dX12_wager_3 : decode cX12_wager 3 = .ok (.iload_n 3, 1) := by decide +kernel
theorem dX12_wager_4 : decode cX12_wager 4 = .ok (.invokevirtual 490, 3) := by decide +kernel
theorem dX12_wager_7 : decode cX12_wager 7 = .ok (.ifCond .eq 13, 3) := by decide +kernel
theorem dX12_wager_10 : decode cX12_wager 10 = .ok (.iload 4, 2) := by decide +kernel
theorem dX12_wager_12 : decode cX12_wager 12 = .ok (.iconst 0, 1) := by decide +kernel
theorem dX12_wager_13 : decode cX12_wager 13 = .ok (.iconst 1, 1) := by decide +kernel
theorem dX12_wager_14 : decode cX12_wager 14 = .ok (.invokestatic 449, 3) := by decide +kernel
theorem dX12_wager_17 : decode cX12_wager 17 = .ok (.ifCond .ne 5, 3) := by decide +kernel
theorem dX12_wager_20 : decode cX12_wager 20 = .ok (.iconst (-1), 1) := by decide +kernel
theorem dX12_wager_21 : decode cX12_wager 21 = .ok (.ireturn, 1) := by decide +kernel
theorem dX12_wager_22 : decode cX12_wager 22 = .ok (.aload_n 0, 1) := by decide +kernel
theorem dX12_wager_23 : decode cX12_wager 23 = .ok (.iload_n 1, 1) := by decide +kernel
theorem dX12_wager_24 : decode cX12_wager 24 = .ok (.iload_n 2, 1) := by decide +kernel
theorem dX12_wager_25 : decode cX12_wager 25 = .ok (.invokevirtual 575, 3) := by decide +kernel
theorem dX12_wager_28 : decode cX12_wager 28 = .ok (.iconst 1, 1) := by decide +kernel
theorem dX12_wager_29 : decode cX12_wager 29 = .ok (.aload_n 0, 1) := by decide +kernel
theorem dX12_wager_30 : decode cX12_wager 30 = .ok (.getfield 431, 3) := by decide +kernel
theorem dX12_wager_33 : decode cX12_wager 33 = .ok (.ishl, 1) := by decide +kernel
theorem dX12_wager_34 : decode cX12_wager 34 = .ok (.iconst 1, 1) := by decide +kernel
theorem dX12_wager_35 : decode cX12_wager 35 = .ok (.isub, 1) := by decide +kernel
theorem dX12_wager_36 : decode cX12_wager 36 = .ok (.istore 5, 2) := by decide +kernel
theorem dX12_wager_38 : decode cX12_wager 38 = .ok (.iload 5, 2) := by decide +kernel
theorem dX12_wager_40 : decode cX12_wager 40 = .ok (.ifCond .lt 15, 3) := by decide +kernel
theorem dX12_wager_43 : decode cX12_wager 43 = .ok (.aload_n 0, 1) := by decide +kernel
theorem dX12_wager_44 : decode cX12_wager 44 = .ok (.iload 5, 2) := by decide +kernel
theorem dX12_wager_46 : decode cX12_wager 46 = .ok (.invokevirtual 578, 3) := by decide +kernel
theorem dX12_wager_49 : decode cX12_wager 49 = .ok (.iinc 5 (-1), 3) := by decide +kernel
theorem dX12_wager_52 : decode cX12_wager 52 = .ok (.goto (-14), 3) := by decide +kernel
theorem dX12_wager_55 : decode cX12_wager 55 = .ok (.iload 4, 2) := by decide +kernel
theorem dX12_wager_57 : decode cX12_wager 57 = .ok (.ifCond .ne 15, 3) := by decide +kernel
theorem dX12_wager_60 : decode cX12_wager 60 = .ok (.aload_n 0, 1) := by decide +kernel
theorem dX12_wager_61 : decode cX12_wager 61 = .ok (.getfield 145, 3) := by decide +kernel
theorem dX12_wager_64 : decode cX12_wager 64 = .ok (.iload_n 3, 1) := by decide +kernel
theorem dX12_wager_65 : decode cX12_wager 65 = .ok (.baload, 1) := by decide +kernel
theorem dX12_wager_66 : decode cX12_wager 66 = .ok (.invokestatic 348, 3) := by decide +kernel
theorem dX12_wager_69 : decode cX12_wager 69 = .ok (.goto 9, 3) := by decide +kernel
theorem dX12_wager_72 : decode cX12_wager 72 = .ok (.aload_n 0, 1) := by decide +kernel
theorem dX12_wager_73 : decode cX12_wager 73 = .ok (.getfield 148, 3) := by decide +kernel
theorem dX12_wager_76 : decode cX12_wager 76 = .ok (.iload_n 3, 1) := by decide +kernel
theorem dX12_wager_77 : decode cX12_wager 77 = .ok (.iaload, 1) := by decide +kernel
theorem dX12_wager_78 : decode cX12_wager 78 = .ok (.ireturn, 1) := by decide +kernel
set_option maxHeartbeats 4000000 in
set_option maxRecDepth 100000 in
theorem n_hasWay (l : Launch) (D : va_G) (k : KT) (A : Nat → Prop) (a : Nat → Nat) (z : SK) (G : GS) (p0 : Int32) (p1 : Int32) (p2 : Int32) (ha_p0 : 0 ≤ p0.toInt ∧ p0.toInt ≤ 3) (ha_p1 : 0 ≤ p1.toInt ∧ p1.toInt ≤ 2) (hP9 : gP G = 1) (hW9 : gW G = 1) (hpw : p0.toInt < (G.1 66 53).toInt) : Met l yX12_hasWay (WS yX12_hasWay cX12_hasWay 6 (some .boolean)) ({ frames := 5, cells := 0, slots := 0, locals := 117 }) (va_Pc [.ref (a 66), .int p0, .int p1, .int p2] (cW D k A a z G)) (va_Qi (fun (r : Int32) (G1 : GS) => Bd G1 ∧ Fr [76, 97, 98, 99] [(66, 59), (66, 60), (66, 61), (66, 62), (66, 63)] G G1 ∧ (0 ≤ r.toInt ∧ r.toInt ≤ 1)) (fun (G1 : GS) t => Wd D k A a G1 t.heap) A) 0 0 A := by
  refine Met.ofW (cc := cX12_hasWay) (maxL := 6) (ret := (some .boolean)) (by decide) rfl ?_
  intro p e s m args below meth c s₁ B hml hv
  obtain ⟨rfl, hW, hB_G, hK, hZ⟩ := hv
  have hx := B.exec
  have hb := B.bytes
  have hr := B.returns
  have hts := atoms_spec (ws := WS yX12_hasWay cX12_hasWay 6 (some .boolean)) B.pre
  have hgd : ∀ w ∈ gd, w ∈ WS yX12_hasWay cX12_hasWay 6 (some .boolean) := fun w h => List.mem_cons_of_mem _ h
  have hg : ∀ w ∈ gd, w.before _ s = true := fun w h => hts w (hgd w h)
  have hown : s.vm.findClass RX12 = some m.cls := findClass_of_methodNamed B.named
  have hS : va_S A s.heap s.heap [] := va_S.rf
  have hF : Fr [76, 97, 98, 99] [(66, 59), (66, 60), (66, 61), (66, 62), (66, 63)] G G := Fr.rf
  have hl := lv_entry ([.ref (a 66), .int p0, .int p1, .int p2]) (n := 6) (Nat.le_of_ble_eq_true rfl)
  rw [lg_entry_eq]
  generalize (lg_sl ([.ref (a 66), .int p0, .int p1, .int p2]) ++ List.replicate (6 - (lg_sl ([.ref (a 66), .int p0, .int p1, .int p2])).length) Slot.unset).toArray = ls at hl ⊢
  have hl : lv_has ls 6 [(0, .ref (a 66)), (1, .int p0), (2, .int p1), (3, .int p2)] := hl
  refine lv_aload_n hx hb dX12_hasWay_0 rfl (lv_at hl 0 rfl) ?_
  refine lv_iload_n hx hb dX12_hasWay_1 rfl (lv_at hl 1 rfl) ?_
  refine lv_iload_n hx hb dX12_hasWay_2 rfl (lv_at hl 2 rfl) ?_
  refine lv_iload_n hx hb dX12_hasWay_3 rfl (lv_at hl 3 rfl) ?_
  refine S_callv (va_runV (As := [.int p0, .int p1, .int p2]) (rest := []) ⟨hx, hb, hml, hown, hts⟩ (n_layStreet l D k A a z G p0 p1 p2 ⟨by omega, by omega⟩ ⟨by omega, by omega⟩ (by omega)) (cwV 3 hts (gd_V hgd m1834 m1836 m91 m131 m1837) rfl rfl rfl (by decide +kernel) ⟨Nat.le_of_ble_eq_true rfl, Nat.le_of_ble_eq_true rfl⟩) (pre_V hW hB_G hK hZ hS kd_66 rfl) rfl rfl hl.1 rfl (lv_room (Nat.le_of_ble_eq_true rfl)) dX12_hasWay_4 ⟨Nat.le_of_ble_eq_true rfl, Nat.le_of_ble_eq_true rfl⟩) hS (fun G_2 H locs hpo hW hS => ?_)
  obtain ⟨hB_G_2, hq_3, hp_4⟩ := hpo
  have hF := hF.call hq_3 (by decide) (by decide)
  have b_5 : 0 ≤ (G.1 66 53).toInt ∧ (G.1 66 53).toInt ≤ 4 := hB_G.i 66 53 rfl rfl
  have u_6 := gW_at hW9 p0 (by omega) (by omega)
  have b_7 : 0 ≤ (G_2.1 66 60).toInt ∧ (G_2.1 66 60).toInt ≤ 12 := hB_G_2.i 66 60 rfl rfl
  have b_8 : 0 ≤ (G_2.1 66 61).toInt ∧ (G_2.1 66 61).toInt ≤ 60 := hB_G_2.i 66 61 rfl rfl
  have b_9 : 0 ≤ (G_2.1 66 62).toInt ∧ (G_2.1 66 62).toInt ≤ 60 := hB_G_2.i 66 62 rfl rfl
  have b_10 : 0 ≤ (G_2.1 66 63).toInt ∧ (G_2.1 66 63).toInt ≤ 99 := hB_G_2.i 66 63 rfl rfl
  refine lv_aload_n hx hb dX12_hasWay_7 rfl (lv_at hl 0 rfl) ?_
  have b_11 : 0 ≤ (G_2.1 98 400).toInt ∧ (G_2.1 98 400).toInt ≤ 1 := hB_G_2.i 98 400 rfl rfl
  refine S_callv (va_runV (As := []) (rest := []) ⟨hx, hb, hml, hown, hts⟩ (n_layNeeds l D k A a z G_2  (by omega) (by omega) (by omega)) (cwV 0 hts (gd_V hgd m1846 m1848 m93 m131 m1849) rfl rfl rfl (by decide +kernel) ⟨Nat.le_of_ble_eq_true rfl, Nat.le_of_ble_eq_true rfl⟩) (pre_V hW hB_G_2 hK hZ hS kd_66 rfl) rfl rfl hl.1 rfl (lv_room (Nat.le_of_ble_eq_true rfl)) dX12_hasWay_8 ⟨Nat.le_of_ble_eq_true rfl, Nat.le_of_ble_eq_true rfl⟩) hS (fun G_13 H locs hpo hW hS => ?_)
  obtain ⟨hB_G_13, hq_14, hp_15⟩ := hpo
  have hF := hF.call hq_14 (by decide) (by decide)
  refine lv_iconst (v := 0) hx hb dX12_hasWay_11 (by decide) ?_
  refine lv_istore (lv' := [(4, .int 0), (0, .ref (a 66)), (1, .int p0), (2, .int p1), (3, .int p2)]) hx hb dX12_hasWay_12 hl (by decide) rfl (fun ls hl => ?_)
  refine lv_iconst (v := 0) hx hb dX12_hasWay_14 (by decide) ?_
  refine lv_istore (lv' := [(5, .int 0), (4, .int 0), (0, .ref (a 66)), (1, .int p0), (2, .int p1), (3, .int p2)]) hx hb dX12_hasWay_15 hl (by decide) rfl (fun ls hl => ?_)
  have qc_22 : (0 : Int32).toInt = 0 := rfl
  refine loop_N (Inv := fun n H locs ls => ∃ (G_16 : GS) (x_20 : Int32) (x_21 : Int32), (n : Int) = 60 - x_20.toInt ∧ (0 ≤ x_20.toInt ∧ x_20.toInt ≤ 60) ∧ (0 ≤ x_21.toInt ∧ x_21.toInt ≤ 1) ∧ Wd D k A a G_16 H ∧ Bd G_16 ∧ Fr [76, 97, 98, 99] [(66, 59), (66, 60), (66, 61), (66, 62), (66, 63)] G G_16 ∧ Fr [] [] G_13 G_16 ∧ va_S A s.heap H locs ∧ lv_has ls 6 [(5, .int x_20), (4, .int x_21), (0, .ref (a 66))]) (fun n_19 H locs ls ih_18 hI => ?_) (60 - 0 : Int).toNat ⟨G_13, 0, 0, (Int.toNat_of_nonneg (by omega)), ⟨by omega, by omega⟩, ⟨by omega, by omega⟩, hW, hB_G_13, hF, Fr.rf, hS, lv_sub hl [0, 1, 2] rfl⟩
  obtain ⟨G_16, x_20, x_21, hn_25, f_23, f_24, hW, hB_G_16, hF, hq_17, hS, hl⟩ := hI
  refine lv_iload hx hb dX12_hasWay_17 (lv_at hl 0 rfl) ?_
  refine lv_aload_n hx hb dX12_hasWay_19 rfl (lv_at hl 2 rfl) ?_
  refine S_getI (v := (G_2.1 66 62)) (C := RX12) (T := TX12) (N := 89) hx hb hg iX12 hown hK hW kd_66 rfl 62 (by decide) (hg (Cond.fieldLink RX12 478 "SlabWalkModel" "most" "I") m1376) (fun _ h9 => h9) rfl ((hq_17.i 66 62 (by decide) (by decide)).trans ((hq_14.i 66 62 (by decide) (by decide)).trans (rfl))) dX12_hasWay_20 ?_
  refine lv_icmp_ge (tgt := 66) hx hb dX12_hasWay_23 (by decide) (fun c_26 => ?_) (fun c_26 => ?_)
  · have c_26 : (G_2.1 66 62).toInt ≤ x_20.toInt := xI_le rfl rfl c_26
    refine lv_iload hx hb dX12_hasWay_66 (lv_at hl 1 rfl) ?_
    exact W.zret (v := x_21) hx hb hr (nar_z (by omega) (by omega)) (fun t ht _ => ⟨⟨x_21, G_16, rfl, ⟨hB_G_16, hF, ⟨by omega, by omega⟩⟩, wd_t ht hW⟩, hS.F ht⟩) hS.2.2 dX12_hasWay_68
  · have c_26 : x_20.toInt < (G_2.1 66 62).toInt := xI_nle rfl rfl c_26
    refine lv_iload hx hb dX12_hasWay_26 (lv_at hl 0 rfl) ?_
    refine lv_sipush (v := 400) hx hb dX12_hasWay_28 (by decide) ?_
    refine lv_icmp_ge (tgt := 66) hx hb dX12_hasWay_31 (by decide) (fun c_27 => ?_) (fun c_27 => ?_)
    · have c_27 : 400 ≤ x_20.toInt := xI_le rfl rfl c_27
      exfalso; omega
    · have c_27 : x_20.toInt < 400 := xI_nle rfl rfl c_27
      refine lv_iload hx hb dX12_hasWay_34 (lv_at hl 1 rfl) ?_
      refine lv_if_ne (tgt := 53) hx hb dX12_hasWay_36 (by decide) (fun c_28 => ?_) (fun c_28 => ?_)
      · have c_28 : x_21.toInt ≠ 0 := xI_ne rfl rfl c_28
        refine lv_iconst (v := 1) hx hb dX12_hasWay_53 (by decide) ?_
        refine lv_goto (tgt := 58) hx hb dX12_hasWay_54 (by decide) ?_
        refine lv_istore (lv' := [(4, .int 1), (5, .int x_20), (0, .ref (a 66))]) hx hb dX12_hasWay_58 hl (by decide) rfl (fun ls hl => ?_)
        obtain ⟨y_29, ey_29⟩ : ∃ q, q = x_20 + 1 := ⟨_, rfl⟩
        have ty_29 : y_29.toInt = x_20.toInt + 1 := xI_add rfl rfl ey_29 (by omega) (by omega)
        refine lv_iinc (v := y_29) (lv' := [(5, .int y_29), (4, .int 1), (0, .ref (a 66))]) hx hb dX12_hasWay_60 hl (k := 1) rfl (by rw [ey_29]; rfl) (by decide) rfl (fun ls hl => ?_)
        refine lv_goto (tgt := 17) hx hb dX12_hasWay_63 (by decide) ?_
        have qc_30 : (1 : Int32).toInt = 1 := rfl
        exact ih_18 (60 - y_29.toInt : Int).toNat (by omega) _ _ _ ⟨G_16, y_29, 1, (Int.toNat_of_nonneg (by omega)), ⟨by omega, by omega⟩, ⟨by omega, by omega⟩, hW, hB_G_16, hF, (Fr.rf.call hq_17 (by decide) (by decide)), hS, lv_sub hl [0, 1, 2] rfl⟩
      · have c_28 : x_21.toInt = 0 := xI_eq rfl rfl c_28
        refine lv_aload_n hx hb dX12_hasWay_39 rfl (lv_at hl 2 rfl) ?_
        refine lv_iload hx hb dX12_hasWay_40 (lv_at hl 0 rfl) ?_
        refine lv_iconst (v := 0) hx hb dX12_hasWay_42 (by decide) ?_
        refine lv_iconst (v := 0) hx hb dX12_hasWay_43 (by decide) ?_
        have qc_31 : (0 : Int32).toInt = 0 := rfl
        have qc_32 : (0 : Int32).toInt = 0 := rfl
        refine S_calli (va_runV (As := [.int x_20, .int 0, .int 0]) (rest := []) ⟨hx, hb, hml, hown, hts⟩ (n_needOf l D k A a z G_16 x_20 0 0 ⟨by omega, by omega⟩ ⟨by decide, by decide⟩ ⟨by decide, by decide⟩) (cwV 3 hts (gd_V hgd m1859 m1861 m96 m131 m1862) rfl rfl rfl (by decide +kernel) ⟨Nat.le_of_ble_eq_true rfl, Nat.le_of_ble_eq_true rfl⟩) (pre_V hW hB_G_16 hK hZ hS kd_66 rfl) rfl rfl hl.1 rfl (lv_room (Nat.le_of_ble_eq_true rfl)) dX12_hasWay_44 ⟨Nat.le_of_ble_eq_true rfl, Nat.le_of_ble_eq_true rfl⟩) hS (fun r_33 G_34 H locs hpo hW hS => ?_)
        obtain ⟨hB_G_34, hq_35, f_37, hp_36⟩ := hpo
        have hF := hF.call hq_35 (by decide) (by decide)
        refine lv_ldcw (v := 100000) hx hb hown (hg (Cond.constant RX12 502 100000) m1858) dX12_hasWay_47 ?_
        refine lv_icmp_ge (tgt := 57) hx hb dX12_hasWay_50 (by decide) (fun c_38 => ?_) (fun c_38 => ?_)
        · have c_38 : 100000 ≤ r_33.toInt := xI_le rfl rfl c_38
          refine lv_iconst (v := 0) hx hb dX12_hasWay_57 (by decide) ?_
          refine lv_istore (lv' := [(4, .int 0), (5, .int x_20), (0, .ref (a 66))]) hx hb dX12_hasWay_58 hl (by decide) rfl (fun ls hl => ?_)
          obtain ⟨y_39, ey_39⟩ : ∃ q, q = x_20 + 1 := ⟨_, rfl⟩
          have ty_39 : y_39.toInt = x_20.toInt + 1 := xI_add rfl rfl ey_39 (by omega) (by omega)
          refine lv_iinc (v := y_39) (lv' := [(5, .int y_39), (4, .int 0), (0, .ref (a 66))]) hx hb dX12_hasWay_60 hl (k := 1) rfl (by rw [ey_39]; rfl) (by decide) rfl (fun ls hl => ?_)
          refine lv_goto (tgt := 17) hx hb dX12_hasWay_63 (by decide) ?_
          have qc_40 : (0 : Int32).toInt = 0 := rfl
          exact ih_18 (60 - y_39.toInt : Int).toNat (by omega) _ _ _ ⟨G_34, y_39, 0, (Int.toNat_of_nonneg (by omega)), ⟨by omega, by omega⟩, ⟨by omega, by omega⟩, hW, hB_G_34, hF, ((Fr.rf.call hq_17 (by decide) (by decide)).call hq_35 (by decide) (by decide)), hS, lv_sub hl [0, 1, 2] rfl⟩
        · have c_38 : r_33.toInt < 100000 := xI_nle rfl rfl c_38
          refine lv_iconst (v := 1) hx hb dX12_hasWay_53 (by decide) ?_
          refine lv_goto (tgt := 58) hx hb dX12_hasWay_54 (by decide) ?_
          refine lv_istore (lv' := [(4, .int 1), (5, .int x_20), (0, .ref (a 66))]) hx hb dX12_hasWay_58 hl (by decide) rfl (fun ls hl => ?_)
          obtain ⟨y_41, ey_41⟩ : ∃ q, q = x_20 + 1 := ⟨_, rfl⟩
          have ty_41 : y_41.toInt = x_20.toInt + 1 := xI_add rfl rfl ey_41 (by omega) (by omega)
          refine lv_iinc (v := y_41) (lv' := [(5, .int y_41), (4, .int 1), (0, .ref (a 66))]) hx hb dX12_hasWay_60 hl (k := 1) rfl (by rw [ey_41]; rfl) (by decide) rfl (fun ls hl => ?_)
          refine lv_goto (tgt := 17) hx hb dX12_hasWay_63 (by decide) ?_
          have qc_42 : (1 : Int32).toInt = 1 := rfl
          exact ih_18 (60 - y_41.toInt : Int).toNat (by omega) _ _ _ ⟨G_34, y_41, 1, (Int.toNat_of_nonneg (by omega)), ⟨by omega, by omega⟩, ⟨by omega, by omega⟩, hW, hB_G_34, hF, ((Fr.rf.call hq_17 (by decide) (by decide)).call hq_35 (by decide) (by decide)), hS, lv_sub hl [0, 1, 2] rfl⟩

set_option maxHeartbeats 4000000 in
set_option maxRecDepth 100000 in
theorem n_layWays (l : Launch) (D : va_G) (k : KT) (A : Nat → Prop) (a : Nat → Nat) (z : SK) (G : GS) (p0 : Int32) (p1 : Int32) (ha_p0 : 0 ≤ p0.toInt ∧ p0.toInt ≤ 3) (ha_p1 : 0 ≤ p1.toInt ∧ p1.toInt ≤ 2) (hP9 : gP G = 1) (hW9 : gW G = 1) (hpw : p0.toInt < (G.1 66 53).toInt) : Met l yX12_layWays (WS yX12_layWays cX12_layWays 4 none) ({ frames := 6, cells := 0, slots := 0, locals := 142 }) (va_Pc [.ref (a 66), .int p0, .int p1] (cW D k A a z G)) (va_Qv (fun (G1 : GS) => Bd G1 ∧ Fr [107, 76, 97, 98, 99] [(66, 59), (66, 60), (66, 61), (66, 62), (66, 63)] G G1) (fun (G1 : GS) t => Wd D k A a G1 t.heap) A) 0 0 A := by
  refine Met.ofW (cc := cX12_layWays) (maxL := 4) (ret := none) (by decide) rfl ?_
  intro p e s m args below meth c s₁ B hml hv
  obtain ⟨rfl, hW, hB_G, hK, hZ⟩ := hv
  have hx := B.exec
  have hb := B.bytes
  have hr := B.returns
  have hts := atoms_spec (ws := WS yX12_layWays cX12_layWays 4 none) B.pre
  have hgd : ∀ w ∈ gd, w ∈ WS yX12_layWays cX12_layWays 4 none := fun w h => List.mem_cons_of_mem _ h
  have hg : ∀ w ∈ gd, w.before _ s = true := fun w h => hts w (hgd w h)
  have hown : s.vm.findClass RX12 = some m.cls := findClass_of_methodNamed B.named
  have hS : va_S A s.heap s.heap [] := va_S.rf
  have hF : Fr [107, 76, 97, 98, 99] [(66, 59), (66, 60), (66, 61), (66, 62), (66, 63)] G G := Fr.rf
  have hl := lv_entry ([.ref (a 66), .int p0, .int p1]) (n := 4) (Nat.le_of_ble_eq_true rfl)
  rw [lg_entry_eq]
  generalize (lg_sl ([.ref (a 66), .int p0, .int p1]) ++ List.replicate (4 - (lg_sl ([.ref (a 66), .int p0, .int p1])).length) Slot.unset).toArray = ls at hl ⊢
  have hl : lv_has ls 4 [(0, .ref (a 66)), (1, .int p0), (2, .int p1)] := hl
  refine lv_iconst (v := 0) hx hb dX12_layWays_0 (by decide) ?_
  refine lv_istore_n (lv' := [(3, .int 0), (0, .ref (a 66)), (1, .int p0), (2, .int p1)]) hx hb dX12_layWays_1 rfl hl (by decide) rfl (fun ls hl => ?_)
  have qc_6 : (0 : Int32).toInt = 0 := rfl
  refine loop_N (Inv := fun n H locs ls => ∃ (G_1 : GS) (x_5 : Int32), (n : Int) = 64 - x_5.toInt ∧ (0 ≤ x_5.toInt ∧ x_5.toInt ≤ 64) ∧ Wd D k A a G_1 H ∧ Bd G_1 ∧ Fr [107, 76, 97, 98, 99] [(66, 59), (66, 60), (66, 61), (66, 62), (66, 63)] G G_1 ∧ Fr [76, 97, 98, 99, 107] [(66, 59), (66, 60), (66, 61), (66, 62), (66, 63)] G G_1 ∧ va_S A s.heap H locs ∧ lv_has ls 4 [(3, .int x_5), (0, .ref (a 66)), (1, .int p0), (2, .int p1)]) (fun n_4 H locs ls ih_3 hI => ?_) (64 - 0 : Int).toNat ⟨G, 0, (Int.toNat_of_nonneg (by omega)), ⟨by omega, by omega⟩, hW, hB_G, hF, Fr.rf, hS, lv_sub hl [0, 1, 2, 3] rfl⟩
  obtain ⟨G_1, x_5, hn_8, f_7, hW, hB_G_1, hF, hq_2, hS, hl⟩ := hI
  refine lv_iload_n hx hb dX12_layWays_2 rfl (lv_at hl 0 rfl) ?_
  refine lv_iconst (v := 1) hx hb dX12_layWays_3 (by decide) ?_
  refine lv_aload_n hx hb dX12_layWays_4 rfl (lv_at hl 1 rfl) ?_
  have b_9 : 0 ≤ (G.1 66 54).toInt ∧ (G.1 66 54).toInt ≤ 6 := hB_G.i 66 54 rfl rfl
  refine S_getI (v := (G.1 66 54)) (C := RX12) (T := TX12) (N := 89) hx hb hg iX12 hown hK hW kd_66 rfl 54 (by decide) (hg (Cond.fieldLink RX12 431 "SlabWalkModel" "rules" "I") m1368) (fun _ h9 => h9) rfl (hq_2.i 66 54 (by decide) (by decide)) dX12_layWays_5 ?_
  refine lv_ishl hx hb dX12_layWays_8 ?_
  refine lv_topi (fun y_10 ey_10 => ?_)
  have ty_10 := sh6 (Y := (G.1 66 54).toInt) rfl ey_10 rfl (by omega) (by omega)
  refine lv_icmp_ge (tgt := 31) hx hb dX12_layWays_9 (by decide) (fun c_11 => ?_) (fun c_11 => ?_)
  · have c_11 : y_10.toInt ≤ x_5.toInt := xI_le rfl rfl c_11
    exact W.vret hx hb hr (fun t ht _ => ⟨⟨G_1, rfl, ⟨hB_G_1, hF⟩, wd_t ht hW⟩, hS.F ht⟩) hS.2.2 dX12_layWays_31
  · have c_11 : x_5.toInt < y_10.toInt := xI_nle rfl rfl c_11
    refine lv_aload_n hx hb dX12_layWays_12 rfl (lv_at hl 1 rfl) ?_
    refine S_getR (n := 107) (C := RX12) (T := TX12) (N := 89) hx hb hg iX12 hown hK hW kd_66 rfl 73 (by decide) (hg (Cond.fieldLink RX12 142 "SlabWalkModel" "hasWays" "[Z") m1387) (fun _ h9 => h9) rfl dX12_layWays_13 ?_
    refine lv_iload_n hx hb dX12_layWays_16 rfl (lv_at hl 0 rfl) ?_
    refine lv_aload_n hx hb dX12_layWays_17 rfl (lv_at hl 1 rfl) ?_
    refine lv_iload_n hx hb dX12_layWays_18 rfl (lv_at hl 2 rfl) ?_
    refine lv_iload_n hx hb dX12_layWays_19 rfl (lv_at hl 3 rfl) ?_
    refine lv_iload_n hx hb dX12_layWays_20 rfl (lv_at hl 0 rfl) ?_
    have g_12 : gP G_1 = gP G := gP_fr (rs := [76, 97, 98, 99, 107]) (fs := [(66, 59), (66, 60), (66, 61), (66, 62), (66, 63)]) (Fr.rf.call hq_2 (by decide) (by decide)) (by decide) (by decide)
    have g_13 : gW G_1 = gW G := gW_fr (rs := [76, 97, 98, 99, 107]) (fs := [(66, 59), (66, 60), (66, 61), (66, 62), (66, 63)]) (Fr.rf.call hq_2 (by decide) (by decide)) (by decide) (by decide)
    have b_14 : 0 ≤ (G.1 66 53).toInt ∧ (G.1 66 53).toInt ≤ 4 := hB_G.i 66 53 rfl rfl
    have g_15 : (G_1.1 66 53).toInt = (G.1 66 53).toInt := by rw [show G_1.1 66 53 = (G.1 66 53) from (hq_2.i 66 53 (by decide) (by decide))]
    refine S_calli (va_runV (As := [.int p0, .int p1, .int x_5]) (rest := [.int x_5, .ref (a 107)]) ⟨hx, hb, hml, hown, hts⟩ (n_hasWay l D k A a z G_1 p0 p1 x_5 ⟨by omega, by omega⟩ ⟨by omega, by omega⟩ (by omega) (by omega) (by omega)) (cwV 3 hts (gd_V hgd m1975 m1977 m109 m131 m1978) rfl rfl rfl (by decide +kernel) ⟨Nat.le_of_ble_eq_true rfl, Nat.le_of_ble_eq_true rfl⟩) (pre_V hW hB_G_1 hK hZ hS kd_66 rfl) rfl rfl hl.1 rfl (lv_room (Nat.le_of_ble_eq_true rfl)) dX12_layWays_21 ⟨Nat.le_of_ble_eq_true rfl, Nat.le_of_ble_eq_true rfl⟩) hS (fun r_16 G_17 H locs hpo hW hS => ?_)
    obtain ⟨hB_G_17, hq_18, f_20⟩ := hpo
    have hF := hF.call hq_18 (by decide) (by decide)
    refine S_zast hx hb hK hW hS kd_107 (vin (by omega) (by omega)) dX12_layWays_24 (fun G_21 H locs eG_21 hW hS => ?_)
    have hB_G_21 : Bd G_21 := hB_G_17.put (lo := 0) (hi := 1) eG_21 rfl rfl rfl nz_bool.1 nz_bool.2 (hB_G_17.2.put eG_21 rfl)
    have hF := hF.put eG_21 (Or.inl (by decide))
    obtain ⟨y_22, ey_22⟩ : ∃ q, q = x_5 + 1 := ⟨_, rfl⟩
    have ty_22 : y_22.toInt = x_5.toInt + 1 := xI_add rfl rfl ey_22 (by omega) (by omega)
    refine lv_iinc (v := y_22) (lv' := [(3, .int y_22), (0, .ref (a 66)), (1, .int p0), (2, .int p1)]) hx hb dX12_layWays_25 hl (k := 0) rfl (by rw [ey_22]; rfl) (by decide) rfl (fun ls hl => ?_)
    refine lv_goto (tgt := 2) hx hb dX12_layWays_28 (by decide) ?_
    exact ih_3 (64 - y_22.toInt : Int).toNat (by omega) _ _ _ ⟨G_21, y_22, (Int.toNat_of_nonneg (by omega)), ⟨by omega, by omega⟩, hW, hB_G_21, hF, (((Fr.rf.call hq_2 (by decide) (by decide)).call hq_18 (by decide) (by decide)).put eG_21 (Or.inl (by decide))), hS, lv_sub hl [0, 1, 2, 3] rfl⟩

set_option maxHeartbeats 4000000 in
set_option maxRecDepth 100000 in
theorem n_wager (l : Launch) (D : va_G) (k : KT) (A : Nat → Prop) (a : Nat → Nat) (z : SK) (G : GS) (p0 : Int32) (p1 : Int32) (p2 : Int32) (p3 : Int32) (hP9 : gP G = 1) (hW9 : gW G = 1) : Met l yX12_wager (WS yX12_wager cX12_wager 6 (some .int)) ({ frames := 7, cells := 0, slots := 0, locals := 165 }) (va_Pc [.ref (a 66), .int p0, .int p1, .int p2, .int p3] (cW D k A a z G)) (va_Qi (fun (r : Int32) (G1 : GS) => Bd G1 ∧ Fr [107, 108, 109, 76, 97, 98, 99] [(66, 59), (66, 60), (66, 61), (66, 62), (66, 63)] G G1) (fun (G1 : GS) t => Wd D k A a G1 t.heap) A) 0 0 A := by
  refine Met.ofW (cc := cX12_wager) (maxL := 6) (ret := (some .int)) (by decide) rfl ?_
  intro p e s m args below meth c s₁ B hml hv
  obtain ⟨rfl, hW, hB_G, hK, hZ⟩ := hv
  have hx := B.exec
  have hb := B.bytes
  have hr := B.returns
  have hts := atoms_spec (ws := WS yX12_wager cX12_wager 6 (some .int)) B.pre
  have hgd : ∀ w ∈ gd, w ∈ WS yX12_wager cX12_wager 6 (some .int) := fun w h => List.mem_cons_of_mem _ h
  have hg : ∀ w ∈ gd, w.before _ s = true := fun w h => hts w (hgd w h)
  have hown : s.vm.findClass RX12 = some m.cls := findClass_of_methodNamed B.named
  have hS : va_S A s.heap s.heap [] := va_S.rf
  have hF : Fr [107, 108, 109, 76, 97, 98, 99] [(66, 59), (66, 60), (66, 61), (66, 62), (66, 63)] G G := Fr.rf
  have hl := lv_entry ([.ref (a 66), .int p0, .int p1, .int p2, .int p3]) (n := 6) (Nat.le_of_ble_eq_true rfl)
  rw [lg_entry_eq]
  generalize (lg_sl ([.ref (a 66), .int p0, .int p1, .int p2, .int p3]) ++ List.replicate (6 - (lg_sl ([.ref (a 66), .int p0, .int p1, .int p2, .int p3])).length) Slot.unset).toArray = ls at hl ⊢
  have hl : lv_has ls 6 [(0, .ref (a 66)), (1, .int p0), (2, .int p1), (3, .int p2), (4, .int p3)] := hl
  refine lv_aload_n hx hb dX12_wager_0 rfl (lv_at hl 0 rfl) ?_
  refine lv_iload_n hx hb dX12_wager_1 rfl (lv_at hl 1 rfl) ?_
  refine lv_iload_n hx hb dX12_wager_2 rfl (lv_at hl 2 rfl) ?_
  refine lv_iload_n hx hb dX12_wager_3 rfl (lv_at hl 3 rfl) ?_
  refine S_calli (va_runV (As := [.int p0, .int p1, .int p2]) (rest := []) ⟨hx, hb, hml, hown, hts⟩ (n_isAsked l D k A a z G p0 p1 p2 ) (cwV 3 hts (gd_V hgd m1826 m1828 m89 m131 m1829) rfl rfl rfl (by decide +kernel) ⟨Nat.le_of_ble_eq_true rfl, Nat.le_of_ble_eq_true rfl⟩) (pre_V hW hB_G hK hZ hS kd_66 rfl) rfl rfl hl.1 rfl (lv_room (Nat.le_of_ble_eq_true rfl)) dX12_wager_4 ⟨Nat.le_of_ble_eq_true rfl, Nat.le_of_ble_eq_true rfl⟩) hS (fun r_1 G_2 H locs hpo hW hS => ?_)
  obtain ⟨hB_G_2, hq_3, f_5, hp_4⟩ := hpo
  have hF := hF.call hq_3 (by decide) (by decide)
  refine lv_if_eq (tgt := 20) hx hb dX12_wager_7 (by decide) (fun c_6 => ?_) (fun c_6 => ?_)
  · have c_6 : r_1.toInt = 0 := xI_eq rfl rfl c_6
    refine lv_iconst (v := (-1)) hx hb dX12_wager_20 (by decide) ?_
    exact W.iret (v := (-1)) hx hb hr (fun t ht _ => ⟨⟨(-1), G_2, rfl, ⟨hB_G_2, hF⟩, wd_t ht hW⟩, hS.F ht⟩) hS.2.2 dX12_wager_21
  · have c_6 : r_1.toInt ≠ 0 := xI_ne rfl rfl c_6
    refine lv_iload hx hb dX12_wager_10 (lv_at hl 4 rfl) ?_
    refine lv_iconst (v := 0) hx hb dX12_wager_12 (by decide) ?_
    refine lv_iconst (v := 1) hx hb dX12_wager_13 (by decide) ?_
    have qc_7 : (0 : Int32).toInt = 0 := rfl
    have qc_8 : (1 : Int32).toInt = 1 := rfl
    refine S_calli (va_runS (As := [.int p3, .int 0, .int 1]) (rest := []) ⟨hx, hb, hml, hown, hts⟩ (n_isIn l D k A a z G_2 p3 0 1 ) (va_cwS 3 hts (gd_S hgd m1781 m1782 m131 m1783) rfl rfl rfl (by decide +kernel) ⟨Nat.le_of_ble_eq_true rfl, Nat.le_of_ble_eq_true rfl⟩) (pre_S hW hB_G_2 hK hZ hS) rfl rfl hl.1 rfl (lv_room (Nat.le_of_ble_eq_true rfl)) dX12_wager_14 ⟨Nat.le_of_ble_eq_true rfl, Nat.le_of_ble_eq_true rfl⟩) hS (fun r_9 G_10 H locs hpo hW hS => ?_)
    obtain ⟨hB_G_10, hq_11, f_13, hp_12⟩ := hpo
    have hF := hF.call hq_11 (by decide) (by decide)
    refine lv_if_ne (tgt := 22) hx hb dX12_wager_17 (by decide) (fun c_14 => ?_) (fun c_14 => ?_)
    · have c_14 : r_9.toInt ≠ 0 := xI_ne rfl rfl c_14
      refine lv_aload_n hx hb dX12_wager_22 rfl (lv_at hl 0 rfl) ?_
      refine lv_iload_n hx hb dX12_wager_23 rfl (lv_at hl 1 rfl) ?_
      refine lv_iload_n hx hb dX12_wager_24 rfl (lv_at hl 2 rfl) ?_
      have g_15 : gP G_10 = gP G := gP_fr (rs := []) (fs := []) ((Fr.rf.call hq_3 (by decide) (by decide)).call hq_11 (by decide) (by decide)) (by decide) (by decide)
      have g_16 : gW G_10 = gW G := gW_fr (rs := []) (fs := []) ((Fr.rf.call hq_3 (by decide) (by decide)).call hq_11 (by decide) (by decide)) (by decide) (by decide)
      have b_17 : 0 ≤ (G.1 66 53).toInt ∧ (G.1 66 53).toInt ≤ 4 := hB_G.i 66 53 rfl rfl
      have g_18 : (G_10.1 66 53).toInt = (G.1 66 53).toInt := by rw [show G_10.1 66 53 = (G.1 66 53) from ((hq_11.i 66 53 (by decide) (by decide)).trans (hq_3.i 66 53 (by decide) (by decide)))]
      refine S_callv (va_runV (As := [.int p0, .int p1]) (rest := []) ⟨hx, hb, hml, hown, hts⟩ (n_layWays l D k A a z G_10 p0 p1 ⟨by omega, by omega⟩ ⟨by omega, by omega⟩ (by omega) (by omega) (by omega)) (cwV 2 hts (gd_V hgd m1971 m1973 m108 m131 m1974) rfl rfl rfl (by decide +kernel) ⟨Nat.le_of_ble_eq_true rfl, Nat.le_of_ble_eq_true rfl⟩) (pre_V hW hB_G_10 hK hZ hS kd_66 rfl) rfl rfl hl.1 rfl (lv_room (Nat.le_of_ble_eq_true rfl)) dX12_wager_25 ⟨Nat.le_of_ble_eq_true rfl, Nat.le_of_ble_eq_true rfl⟩) hS (fun G_20 H locs hpo hW hS => ?_)
      obtain ⟨hB_G_20, hq_21⟩ := hpo
      have hF := hF.call hq_21 (by decide) (by decide)
      refine lv_iconst (v := 1) hx hb dX12_wager_28 (by decide) ?_
      refine lv_aload_n hx hb dX12_wager_29 rfl (lv_at hl 0 rfl) ?_
      have b_23 : 0 ≤ (G.1 66 54).toInt ∧ (G.1 66 54).toInt ≤ 6 := hB_G.i 66 54 rfl rfl
      refine S_getI (v := (G.1 66 54)) (C := RX12) (T := TX12) (N := 89) hx hb hg iX12 hown hK hW kd_66 rfl 54 (by decide) (hg (Cond.fieldLink RX12 431 "SlabWalkModel" "rules" "I") m1368) (fun _ h9 => h9) rfl ((hq_21.i 66 54 (by decide) (by decide)).trans ((hq_11.i 66 54 (by decide) (by decide)).trans (hq_3.i 66 54 (by decide) (by decide)))) dX12_wager_30 ?_
      refine lv_ishl hx hb dX12_wager_33 ?_
      refine lv_topi (fun y_24 ey_24 => ?_)
      have ty_24 := sh6 (Y := (G.1 66 54).toInt) rfl ey_24 rfl (by omega) (by omega)
      refine lv_iconst (v := 1) hx hb dX12_wager_34 (by decide) ?_
      refine lv_isub hx hb dX12_wager_35 ?_
      refine lv_topi (fun y_25 ey_25 => ?_)
      have ty_25 : y_25.toInt = y_24.toInt - 1 := xI_sub rfl rfl ey_25 (by omega) (by omega)
      refine lv_istore (lv' := [(5, .int y_25), (0, .ref (a 66)), (1, .int p0), (2, .int p1), (3, .int p2), (4, .int p3)]) hx hb dX12_wager_36 hl (by decide) rfl (fun ls hl => ?_)
      refine loop_N (Inv := fun n H locs ls => ∃ (G_26 : GS) (x_30 : Int32), (n : Int) = x_30.toInt - (-1) ∧ ((-1) ≤ x_30.toInt ∧ x_30.toInt ≤ 63) ∧ Wd D k A a G_26 H ∧ Bd G_26 ∧ Fr [107, 108, 109, 76, 97, 98, 99] [(66, 59), (66, 60), (66, 61), (66, 62), (66, 63)] G G_26 ∧ Fr [108, 109] [] G_20 G_26 ∧ va_S A s.heap H locs ∧ lv_has ls 6 [(5, .int x_30), (0, .ref (a 66)), (3, .int p2), (4, .int p3)]) (fun n_29 H locs ls ih_28 hI => ?_) (y_25.toInt - (-1) : Int).toNat ⟨G_20, y_25, (Int.toNat_of_nonneg (by omega)), ⟨by omega, by omega⟩, hW, hB_G_20, hF, Fr.rf, hS, lv_sub hl [0, 1, 4, 5] rfl⟩
      obtain ⟨G_26, x_30, hn_32, f_31, hW, hB_G_26, hF, hq_27, hS, hl⟩ := hI
      refine lv_iload hx hb dX12_wager_38 (lv_at hl 0 rfl) ?_
      refine lv_if_lt (tgt := 55) hx hb dX12_wager_40 (by decide) (fun c_33 => ?_) (fun c_33 => ?_)
      · have c_33 : x_30.toInt < 0 := xI_lt rfl rfl c_33
        refine lv_iload hx hb dX12_wager_55 (lv_at hl 3 rfl) ?_
        refine lv_if_ne (tgt := 72) hx hb dX12_wager_57 (by decide) (fun c_34 => ?_) (fun c_34 => ?_)
        · have c_34 : p3.toInt ≠ 0 := xI_ne rfl rfl c_34
          refine lv_aload_n hx hb dX12_wager_72 rfl (lv_at hl 1 rfl) ?_
          refine S_getR (n := 109) (C := RX12) (T := TX12) (N := 89) hx hb hg iX12 hown hK hW kd_66 rfl 75 (by decide) (hg (Cond.fieldLink RX12 148 "SlabWalkModel" "winsBy" "[I") m1389) (fun _ h9 => h9) rfl dX12_wager_73 ?_
          refine lv_iload_n hx hb dX12_wager_76 rfl (lv_at hl 2 rfl) ?_
          refine S_iald hx hb hK hW kd_109 (vin (by omega) (by omega)) dX12_wager_77 (fun y_35 ey_35 => ?_)
          exact W.iret (v := y_35) hx hb hr (fun t ht _ => ⟨⟨y_35, G_26, rfl, ⟨hB_G_26, hF⟩, wd_t ht hW⟩, hS.F ht⟩) hS.2.2 dX12_wager_78
        · have c_34 : p3.toInt = 0 := xI_eq rfl rfl c_34
          refine lv_aload_n hx hb dX12_wager_60 rfl (lv_at hl 1 rfl) ?_
          refine S_getR (n := 108) (C := RX12) (T := TX12) (N := 89) hx hb hg iX12 hown hK hW kd_66 rfl 74 (by decide) (hg (Cond.fieldLink RX12 145 "SlabWalkModel" "wins" "[Z") m1388) (fun _ h9 => h9) rfl dX12_wager_61 ?_
          refine lv_iload_n hx hb dX12_wager_64 rfl (lv_at hl 2 rfl) ?_
          refine S_zald hx hb hK hW kd_108 (vin (by omega) (by omega)) dX12_wager_65 (fun y_36 ey_36 => ?_)
          have ty_36 : 0 ≤ y_36.toInt ∧ y_36.toInt ≤ 1 := hB_G_26.v ey_36 rfl rfl
          refine S_calli (va_runS (As := [.int y_36]) (rest := []) ⟨hx, hb, hml, hown, hts⟩ (n_truth l D k A a z G_26 y_36 ⟨by omega, by omega⟩) (va_cwS 1 hts (gd_S hgd m1788 m1789 m131 m1790) rfl rfl rfl (by decide +kernel) ⟨Nat.le_of_ble_eq_true rfl, Nat.le_of_ble_eq_true rfl⟩) (pre_S hW hB_G_26 hK hZ hS) rfl rfl hl.1 rfl (lv_room (Nat.le_of_ble_eq_true rfl)) dX12_wager_66 ⟨Nat.le_of_ble_eq_true rfl, Nat.le_of_ble_eq_true rfl⟩) hS (fun r_37 G_38 H locs hpo hW hS => ?_)
          obtain ⟨hB_G_38, hq_39, f_41, hp_40, -⟩ := hpo
          have hF := hF.call hq_39 (by decide) (by decide)
          refine lv_goto (tgt := 78) hx hb dX12_wager_69 (by decide) ?_
          exact W.iret (v := r_37) hx hb hr (fun t ht _ => ⟨⟨r_37, G_38, rfl, ⟨hB_G_38, hF⟩, wd_t ht hW⟩, hS.F ht⟩) hS.2.2 dX12_wager_78
      · have c_33 : 0 ≤ x_30.toInt := xI_nlt rfl rfl c_33
        refine lv_aload_n hx hb dX12_wager_43 rfl (lv_at hl 1 rfl) ?_
        refine lv_iload hx hb dX12_wager_44 (lv_at hl 0 rfl) ?_
        refine S_callv (va_runV (As := [.int x_30]) (rest := []) ⟨hx, hb, hml, hown, hts⟩ (n_layWins l D k A a z G_26 x_30 ⟨by omega, by omega⟩) (cwV 1 hts (gd_V hgd m1979 m1981 m110 m131 m1982) rfl rfl rfl (by decide +kernel) ⟨Nat.le_of_ble_eq_true rfl, Nat.le_of_ble_eq_true rfl⟩) (pre_V hW hB_G_26 hK hZ hS kd_66 rfl) rfl rfl hl.1 rfl (lv_room (Nat.le_of_ble_eq_true rfl)) dX12_wager_46 ⟨Nat.le_of_ble_eq_true rfl, Nat.le_of_ble_eq_true rfl⟩) hS (fun G_43 H locs hpo hW hS => ?_)
        obtain ⟨hB_G_43, hq_44⟩ := hpo
        have hF := hF.call hq_44 (by decide) (by decide)
        obtain ⟨y_46, ey_46⟩ : ∃ q, q = x_30 + (-1) := ⟨_, rfl⟩
        have ty_46 : y_46.toInt = x_30.toInt + (-1) := xI_add rfl rfl ey_46 (by omega) (by omega)
        refine lv_iinc (v := y_46) (lv' := [(5, .int y_46), (0, .ref (a 66)), (3, .int p2), (4, .int p3)]) hx hb dX12_wager_49 hl (k := 0) rfl (by rw [ey_46]; rfl) (by decide) rfl (fun ls hl => ?_)
        refine lv_goto (tgt := 38) hx hb dX12_wager_52 (by decide) ?_
        exact ih_28 (y_46.toInt - (-1) : Int).toNat (by omega) _ _ _ ⟨G_43, y_46, (Int.toNat_of_nonneg (by omega)), ⟨by omega, by omega⟩, hW, hB_G_43, hF, ((Fr.rf.call hq_27 (by decide) (by decide)).call hq_44 (by decide) (by decide)), hS, lv_sub hl [0, 1, 2, 3] rfl⟩
    · have c_14 : r_9.toInt = 0 := xI_eq rfl rfl c_14
      refine lv_iconst (v := (-1)) hx hb dX12_wager_20 (by decide) ?_
      exact W.iret (v := (-1)) hx hb hr (fun t ht _ => ⟨⟨(-1), G_10, rfl, ⟨hB_G_10, hF⟩, wd_t ht hW⟩, hS.F ht⟩) hS.2.2 dX12_wager_21

set_option maxHeartbeats 4000000 in
set_option maxRecDepth 100000 in
theorem n_leave (l : Launch) (D : va_G) (k : KT) (A : Nat → Prop) (a : Nat → Nat) (z : SK) (G : GS) (p0 : Int32) (p1 : Int32) (hP9 : gP G = 1) (hW9 : gW G = 1) : Met l yX12_leave (WS yX12_leave cX12_leave 5 (some .int)) ({ frames := 7, cells := 0, slots := 0, locals := 165 }) (va_Pc [.ref (a 66), .int p0, .int p1] (cW D k A a z G)) (va_Qi (fun (r : Int32) (G1 : GS) => Bd G1 ∧ Fr [107, 76, 97, 98, 99] [(66, 59), (66, 60), (66, 61), (66, 62), (66, 63)] G G1) (fun (G1 : GS) t => Wd D k A a G1 t.heap) A) 0 0 A := by
  refine Met.ofW (cc := cX12_leave) (maxL := 5) (ret := (some .int)) (by decide) rfl ?_
  intro p e s m args below meth c s₁ B hml hv
  obtain ⟨rfl, hW, hB_G, hK, hZ⟩ := hv
  have hx := B.exec
  have hb := B.bytes
  have hr := B.returns
  have hts := atoms_spec (ws := WS yX12_leave cX12_leave 5 (some .int)) B.pre
  have hgd : ∀ w ∈ gd, w ∈ WS yX12_leave cX12_leave 5 (some .int) := fun w h => List.mem_cons_of_mem _ h
  have hg : ∀ w ∈ gd, w.before _ s = true := fun w h => hts w (hgd w h)
  have hown : s.vm.findClass RX12 = some m.cls := findClass_of_methodNamed B.named
  have hS : va_S A s.heap s.heap [] := va_S.rf
  have hF : Fr [107, 76, 97, 98, 99] [(66, 59), (66, 60), (66, 61), (66, 62), (66, 63)] G G := Fr.rf
  have hl := lv_entry ([.ref (a 66), .int p0, .int p1]) (n := 5) (Nat.le_of_ble_eq_true rfl)
  rw [lg_entry_eq]
  generalize (lg_sl ([.ref (a 66), .int p0, .int p1]) ++ List.replicate (5 - (lg_sl ([.ref (a 66), .int p0, .int p1])).length) Slot.unset).toArray = ls at hl ⊢
  have hl : lv_has ls 5 [(0, .ref (a 66)), (1, .int p0), (2, .int p1)] := hl
  refine lv_aload_n hx hb dX12_leave_0 rfl (lv_at hl 0 rfl) ?_
  refine lv_iload_n hx hb dX12_leave_1 rfl (lv_at hl 1 rfl) ?_
  refine S_calli (va_runV (As := [.int p0]) (rest := []) ⟨hx, hb, hml, hown, hts⟩ (n_isWalker l D k A a z G p0 ) (cwV 1 hts (gd_V hgd m1830 m1832 m90 m131 m1833) rfl rfl rfl (by decide +kernel) ⟨Nat.le_of_ble_eq_true rfl, Nat.le_of_ble_eq_true rfl⟩) (pre_V hW hB_G hK hZ hS kd_66 rfl) rfl rfl hl.1 rfl (lv_room (Nat.le_of_ble_eq_true rfl)) dX12_leave_2 ⟨Nat.le_of_ble_eq_true rfl, Nat.le_of_ble_eq_true rfl⟩) hS (fun r_1 G_2 H locs hpo hW hS => ?_)
  obtain ⟨hB_G_2, hq_3, f_5, hp_4⟩ := hpo
  have hF := hF.call hq_3 (by decide) (by decide)
  refine lv_if_eq (tgt := 16) hx hb dX12_leave_5 (by decide) (fun c_6 => ?_) (fun c_6 => ?_)
  · have c_6 : r_1.toInt = 0 := xI_eq rfl rfl c_6
    refine lv_iconst (v := (-1)) hx hb dX12_leave_16 (by decide) ?_
    exact W.iret (v := (-1)) hx hb hr (fun t ht _ => ⟨⟨(-1), G_2, rfl, ⟨hB_G_2, hF⟩, wd_t ht hW⟩, hS.F ht⟩) hS.2.2 dX12_leave_17
  · have c_6 : r_1.toInt ≠ 0 := xI_ne rfl rfl c_6
    refine lv_aload_n hx hb dX12_leave_8 rfl (lv_at hl 0 rfl) ?_
    refine lv_iload_n hx hb dX12_leave_9 rfl (lv_at hl 2 rfl) ?_
    have b_7 : 0 ≤ (G.1 66 52).toInt ∧ (G.1 66 52).toInt ≤ 3 := hB_G.i 66 52 rfl rfl
    have g_8 : (G_2.1 66 52).toInt = (G.1 66 52).toInt := by rw [show G_2.1 66 52 = (G.1 66 52) from (hq_3.i 66 52 (by decide) (by decide))]
    refine S_calli (va_runV (As := [.int p1]) (rest := []) ⟨hx, hb, hml, hown, hts⟩ (n_isStreet l D k A a z G_2 p1 ) (cwV 1 hts (gd_V hgd m1777 m1779 m83 m131 m1780) rfl rfl rfl (by decide +kernel) ⟨Nat.le_of_ble_eq_true rfl, Nat.le_of_ble_eq_true rfl⟩) (pre_V hW hB_G_2 hK hZ hS kd_66 rfl) rfl rfl hl.1 rfl (lv_room (Nat.le_of_ble_eq_true rfl)) dX12_leave_10 ⟨Nat.le_of_ble_eq_true rfl, Nat.le_of_ble_eq_true rfl⟩) hS (fun r_9 G_10 H locs hpo hW hS => ?_)
    obtain ⟨hB_G_10, hq_11, f_13, hp_12⟩ := hpo
    have hF := hF.call hq_11 (by decide) (by decide)
    refine lv_if_ne (tgt := 18) hx hb dX12_leave_13 (by decide) (fun c_14 => ?_) (fun c_14 => ?_)
    · have c_14 : r_9.toInt ≠ 0 := xI_ne rfl rfl c_14
      refine lv_aload_n hx hb dX12_leave_18 rfl (lv_at hl 0 rfl) ?_
      refine lv_iload_n hx hb dX12_leave_19 rfl (lv_at hl 1 rfl) ?_
      refine lv_iload_n hx hb dX12_leave_20 rfl (lv_at hl 2 rfl) ?_
      have g_15 : gP G_10 = gP G := gP_fr (rs := []) (fs := []) ((Fr.rf.call hq_3 (by decide) (by decide)).call hq_11 (by decide) (by decide)) (by decide) (by decide)
      have g_16 : gW G_10 = gW G := gW_fr (rs := []) (fs := []) ((Fr.rf.call hq_3 (by decide) (by decide)).call hq_11 (by decide) (by decide)) (by decide) (by decide)
      have b_17 : 0 ≤ (G.1 66 53).toInt ∧ (G.1 66 53).toInt ≤ 4 := hB_G.i 66 53 rfl rfl
      have g_18 : (G_10.1 66 53).toInt = (G.1 66 53).toInt := by rw [show G_10.1 66 53 = (G.1 66 53) from ((hq_11.i 66 53 (by decide) (by decide)).trans (hq_3.i 66 53 (by decide) (by decide)))]
      refine S_callv (va_runV (As := [.int p0, .int p1]) (rest := []) ⟨hx, hb, hml, hown, hts⟩ (n_layWays l D k A a z G_10 p0 p1 ⟨by omega, by omega⟩ ⟨by omega, by omega⟩ (by omega) (by omega) (by omega)) (cwV 2 hts (gd_V hgd m1971 m1973 m108 m131 m1974) rfl rfl rfl (by decide +kernel) ⟨Nat.le_of_ble_eq_true rfl, Nat.le_of_ble_eq_true rfl⟩) (pre_V hW hB_G_10 hK hZ hS kd_66 rfl) rfl rfl hl.1 rfl (lv_room (Nat.le_of_ble_eq_true rfl)) dX12_leave_21 ⟨Nat.le_of_ble_eq_true rfl, Nat.le_of_ble_eq_true rfl⟩) hS (fun G_20 H locs hpo hW hS => ?_)
      obtain ⟨hB_G_20, hq_21⟩ := hpo
      have hF := hF.call hq_21 (by decide) (by decide)
      refine lv_iconst (v := 0) hx hb dX12_leave_24 (by decide) ?_
      refine lv_istore_n (lv' := [(3, .int 0), (0, .ref (a 66)), (1, .int p0), (2, .int p1)]) hx hb dX12_leave_25 rfl hl (by decide) rfl (fun ls hl => ?_)
      refine lv_iconst (v := 0) hx hb dX12_leave_26 (by decide) ?_
      refine lv_istore (lv' := [(4, .int 0), (3, .int 0), (0, .ref (a 66)), (1, .int p0), (2, .int p1)]) hx hb dX12_leave_27 hl (by decide) rfl (fun ls hl => ?_)
      have qc_29 : (0 : Int32).toInt = 0 := rfl
      refine loop_N (Inv := fun n H locs ls => ∃ (G_23 : GS) (x_27 : Int32) (x_28 : Int32), (n : Int) = 64 - x_27.toInt ∧ (0 ≤ x_27.toInt ∧ x_27.toInt ≤ 64) ∧ Wd D k A a G_23 H ∧ Bd G_23 ∧ Fr [107, 76, 97, 98, 99] [(66, 59), (66, 60), (66, 61), (66, 62), (66, 63)] G G_23 ∧ Fr [] [] G_20 G_23 ∧ va_S A s.heap H locs ∧ lv_has ls 5 [(4, .int x_27), (3, .int x_28), (0, .ref (a 66))]) (fun n_26 H locs ls ih_25 hI => ?_) (64 - 0 : Int).toNat ⟨G_20, 0, 0, (Int.toNat_of_nonneg (by omega)), ⟨by omega, by omega⟩, hW, hB_G_20, hF, Fr.rf, hS, lv_sub hl [0, 1, 2] rfl⟩
      obtain ⟨G_23, x_27, x_28, hn_31, f_30, hW, hB_G_23, hF, hq_24, hS, hl⟩ := hI
      refine lv_iload hx hb dX12_leave_29 (lv_at hl 0 rfl) ?_
      refine lv_iconst (v := 1) hx hb dX12_leave_31 (by decide) ?_
      refine lv_aload_n hx hb dX12_leave_32 rfl (lv_at hl 2 rfl) ?_
      have b_32 : 0 ≤ (G.1 66 54).toInt ∧ (G.1 66 54).toInt ≤ 6 := hB_G.i 66 54 rfl rfl
      refine S_getI (v := (G.1 66 54)) (C := RX12) (T := TX12) (N := 89) hx hb hg iX12 hown hK hW kd_66 rfl 54 (by decide) (hg (Cond.fieldLink RX12 431 "SlabWalkModel" "rules" "I") m1368) (fun _ h9 => h9) rfl ((hq_24.i 66 54 (by decide) (by decide)).trans ((hq_21.i 66 54 (by decide) (by decide)).trans ((hq_11.i 66 54 (by decide) (by decide)).trans (hq_3.i 66 54 (by decide) (by decide))))) dX12_leave_33 ?_
      refine lv_ishl hx hb dX12_leave_36 ?_
      refine lv_topi (fun y_33 ey_33 => ?_)
      have ty_33 := sh6 (Y := (G.1 66 54).toInt) rfl ey_33 rfl (by omega) (by omega)
      refine lv_icmp_ge (tgt := 59) hx hb dX12_leave_37 (by decide) (fun c_34 => ?_) (fun c_34 => ?_)
      · have c_34 : y_33.toInt ≤ x_27.toInt := xI_le rfl rfl c_34
        refine lv_iload_n hx hb dX12_leave_59 rfl (lv_at hl 1 rfl) ?_
        exact W.iret (v := x_28) hx hb hr (fun t ht _ => ⟨⟨x_28, G_23, rfl, ⟨hB_G_23, hF⟩, wd_t ht hW⟩, hS.F ht⟩) hS.2.2 dX12_leave_60
      · have c_34 : x_27.toInt < y_33.toInt := xI_nle rfl rfl c_34
        refine lv_iload_n hx hb dX12_leave_40 rfl (lv_at hl 1 rfl) ?_
        refine lv_aload_n hx hb dX12_leave_41 rfl (lv_at hl 2 rfl) ?_
        refine S_getR (n := 107) (C := RX12) (T := TX12) (N := 89) hx hb hg iX12 hown hK hW kd_66 rfl 73 (by decide) (hg (Cond.fieldLink RX12 142 "SlabWalkModel" "hasWays" "[Z") m1387) (fun _ h9 => h9) rfl dX12_leave_42 ?_
        refine lv_iload hx hb dX12_leave_45 (lv_at hl 0 rfl) ?_
        refine S_zald hx hb hK hW kd_107 (vin (by omega) (by omega)) dX12_leave_47 (fun y_35 ey_35 => ?_)
        have ty_35 : 0 ≤ y_35.toInt ∧ y_35.toInt ≤ 1 := hB_G_23.v ey_35 rfl rfl
        refine S_calli (va_runS (As := [.int y_35]) (rest := [.int x_28]) ⟨hx, hb, hml, hown, hts⟩ (n_truth l D k A a z G_23 y_35 ⟨by omega, by omega⟩) (va_cwS 1 hts (gd_S hgd m1788 m1789 m131 m1790) rfl rfl rfl (by decide +kernel) ⟨Nat.le_of_ble_eq_true rfl, Nat.le_of_ble_eq_true rfl⟩) (pre_S hW hB_G_23 hK hZ hS) rfl rfl hl.1 rfl (lv_room (Nat.le_of_ble_eq_true rfl)) dX12_leave_48 ⟨Nat.le_of_ble_eq_true rfl, Nat.le_of_ble_eq_true rfl⟩) hS (fun r_36 G_37 H locs hpo hW hS => ?_)
        obtain ⟨hB_G_37, hq_38, f_40, hp_39, -⟩ := hpo
        have hF := hF.call hq_38 (by decide) (by decide)
        refine lv_iadd hx hb dX12_leave_51 ?_
        refine lv_topi (fun y_41 ey_41 => ?_)
        refine lv_istore_n (lv' := [(3, .int y_41), (4, .int x_27), (0, .ref (a 66))]) hx hb dX12_leave_52 rfl hl (by decide) rfl (fun ls hl => ?_)
        obtain ⟨y_42, ey_42⟩ : ∃ q, q = x_27 + 1 := ⟨_, rfl⟩
        have ty_42 : y_42.toInt = x_27.toInt + 1 := xI_add rfl rfl ey_42 (by omega) (by omega)
        refine lv_iinc (v := y_42) (lv' := [(4, .int y_42), (3, .int y_41), (0, .ref (a 66))]) hx hb dX12_leave_53 hl (k := 1) rfl (by rw [ey_42]; rfl) (by decide) rfl (fun ls hl => ?_)
        refine lv_goto (tgt := 29) hx hb dX12_leave_56 (by decide) ?_
        exact ih_25 (64 - y_42.toInt : Int).toNat (by omega) _ _ _ ⟨G_37, y_42, y_41, (Int.toNat_of_nonneg (by omega)), ⟨by omega, by omega⟩, hW, hB_G_37, hF, ((Fr.rf.call hq_24 (by decide) (by decide)).call hq_38 (by decide) (by decide)), hS, lv_sub hl [0, 1, 2] rfl⟩
    · have c_14 : r_9.toInt = 0 := xI_eq rfl rfl c_14
      refine lv_iconst (v := (-1)) hx hb dX12_leave_16 (by decide) ?_
      exact W.iret (v := (-1)) hx hb hr (fun t ht _ => ⟨⟨(-1), G_10, rfl, ⟨hB_G_10, hF⟩, wd_t ht hW⟩, hS.F ht⟩) hS.2.2 dX12_leave_17

set_option maxHeartbeats 4000000 in
set_option maxRecDepth 100000 in
theorem n_fewest (l : Launch) (D : va_G) (k : KT) (A : Nat → Prop) (a : Nat → Nat) (z : SK) (G : GS) (p0 : Int32) (p1 : Int32) (p2 : Int32) (p3 : Int32) (hP9 : gP G = 1) (hW9 : gW G = 1) : Met l yX12_fewest (WS yX12_fewest cX12_fewest 11 (some .int)) ({ frames := 5, cells := 0, slots := 0, locals := 117 }) (va_Pc [.ref (a 66), .int p0, .int p1, .int p2, .int p3] (cW D k A a z G)) (va_Qi (fun (r : Int32) (G1 : GS) => Bd G1 ∧ Fr [100, 76, 97, 98, 99] [(66, 59), (66, 60), (66, 61), (66, 62), (66, 63), (66, 66)] G G1) (fun (G1 : GS) t => Wd D k A a G1 t.heap) A) 0 0 A := by
  refine Met.ofW (cc := cX12_fewest) (maxL := 11) (ret := (some .int)) (by decide) rfl ?_
  intro p e s m args below meth c s₁ B hml hv
  obtain ⟨rfl, hW, hB_G, hK, hZ⟩ := hv
  have hx := B.exec
  have hb := B.bytes
  have hr := B.returns
  have hts := atoms_spec (ws := WS yX12_fewest cX12_fewest 11 (some .int)) B.pre
  have hgd : ∀ w ∈ gd, w ∈ WS yX12_fewest cX12_fewest 11 (some .int) := fun w h => List.mem_cons_of_mem _ h
  have hg : ∀ w ∈ gd, w.before _ s = true := fun w h => hts w (hgd w h)
  have hown : s.vm.findClass RX12 = some m.cls := findClass_of_methodNamed B.named
  have hS : va_S A s.heap s.heap [] := va_S.rf
  have hF : Fr [100, 76, 97, 98, 99] [(66, 59), (66, 60), (66, 61), (66, 62), (66, 63), (66, 66)] G G := Fr.rf
  have hl := lv_entry ([.ref (a 66), .int p0, .int p1, .int p2, .int p3]) (n := 11) (Nat.le_of_ble_eq_true rfl)
  rw [lg_entry_eq]
  generalize (lg_sl ([.ref (a 66), .int p0, .int p1, .int p2, .int p3]) ++ List.replicate (11 - (lg_sl ([.ref (a 66), .int p0, .int p1, .int p2, .int p3])).length) Slot.unset).toArray = ls at hl ⊢
  have hl : lv_has ls 11 [(0, .ref (a 66)), (1, .int p0), (2, .int p1), (3, .int p2), (4, .int p3)] := hl
  refine lv_aload_n hx hb dX12_fewest_0 rfl (lv_at hl 0 rfl) ?_
  refine lv_iconst (v := 0) hx hb dX12_fewest_1 (by decide) ?_
  refine S_putI (ty := .int) (C := RX12) (T := TX12) (N := 89) hx hb hg iX12 tyX12 tyX12_ok nmX12 hown hK hW hS kd_66 rfl 66 (by decide) (hg (Cond.fieldLink RX12 446 "SlabWalkModel" "lain" "I") m1380) (fun _ h9 => h9) rfl (by decide +kernel) rfl rfl rfl dX12_fewest_2 (fun G_1 H locs eG_1 hW hS => ?_)
  have hB_G_1 : Bd G_1 := hB_G.put (V := 0) (lo := 0) (hi := 400) eG_1 rfl rfl rfl (by omega) (by omega) (hB_G.2.put eG_1 rfl)
  have hF := hF.put eG_1 (Or.inr (by decide))
  refine lv_aload_n hx hb dX12_fewest_5 rfl (lv_at hl 0 rfl) ?_
  refine lv_iload_n hx hb dX12_fewest_6 rfl (lv_at hl 1 rfl) ?_
  refine lv_iload_n hx hb dX12_fewest_7 rfl (lv_at hl 2 rfl) ?_
  refine lv_iload_n hx hb dX12_fewest_8 rfl (lv_at hl 3 rfl) ?_
  have b_2 : 0 ≤ (G.1 66 52).toInt ∧ (G.1 66 52).toInt ≤ 3 := hB_G.i 66 52 rfl rfl
  have g_3 : (G_1.1 66 52).toInt = (G.1 66 52).toInt := by rw [show G_1.1 66 52 = (G.1 66 52) from (gp_ne eG_1 (by decide))]
  have b_4 : 0 ≤ (G.1 66 53).toInt ∧ (G.1 66 53).toInt ≤ 4 := hB_G.i 66 53 rfl rfl
  have g_5 : (G_1.1 66 53).toInt = (G.1 66 53).toInt := by rw [show G_1.1 66 53 = (G.1 66 53) from (gp_ne eG_1 (by decide))]
  refine S_calli (va_runV (As := [.int p0, .int p1, .int p2]) (rest := []) ⟨hx, hb, hml, hown, hts⟩ (n_isAsked l D k A a z G_1 p0 p1 p2 ) (cwV 3 hts (gd_V hgd m1826 m1828 m89 m131 m1829) rfl rfl rfl (by decide +kernel) ⟨Nat.le_of_ble_eq_true rfl, Nat.le_of_ble_eq_true rfl⟩) (pre_V hW hB_G_1 hK hZ hS kd_66 rfl) rfl rfl hl.1 rfl (lv_room (Nat.le_of_ble_eq_true rfl)) dX12_fewest_9 ⟨Nat.le_of_ble_eq_true rfl, Nat.le_of_ble_eq_true rfl⟩) hS (fun r_6 G_7 H locs hpo hW hS => ?_)
  obtain ⟨hB_G_7, hq_8, f_10, hp_9⟩ := hpo
  have hF := hF.call hq_8 (by decide) (by decide)
  refine lv_if_eq (tgt := 25) hx hb dX12_fewest_12 (by decide) (fun c_11 => ?_) (fun c_11 => ?_)
  · have c_11 : r_6.toInt = 0 := xI_eq rfl rfl c_11
    refine lv_iconst (v := (-1)) hx hb dX12_fewest_25 (by decide) ?_
    exact W.iret (v := (-1)) hx hb hr (fun t ht _ => ⟨⟨(-1), G_7, rfl, ⟨hB_G_7, hF⟩, wd_t ht hW⟩, hS.F ht⟩) hS.2.2 dX12_fewest_26
  · have c_11 : r_6.toInt ≠ 0 := xI_ne rfl rfl c_11
    refine lv_iload hx hb dX12_fewest_15 (lv_at hl 4 rfl) ?_
    refine lv_iconst (v := 0) hx hb dX12_fewest_17 (by decide) ?_
    refine lv_iconst (v := 2) hx hb dX12_fewest_18 (by decide) ?_
    have qc_12 : (0 : Int32).toInt = 0 := rfl
    have qc_13 : (2 : Int32).toInt = 2 := rfl
    refine S_calli (va_runS (As := [.int p3, .int 0, .int 2]) (rest := []) ⟨hx, hb, hml, hown, hts⟩ (n_isIn l D k A a z G_7 p3 0 2 ) (va_cwS 3 hts (gd_S hgd m1781 m1782 m131 m1783) rfl rfl rfl (by decide +kernel) ⟨Nat.le_of_ble_eq_true rfl, Nat.le_of_ble_eq_true rfl⟩) (pre_S hW hB_G_7 hK hZ hS) rfl rfl hl.1 rfl (lv_room (Nat.le_of_ble_eq_true rfl)) dX12_fewest_19 ⟨Nat.le_of_ble_eq_true rfl, Nat.le_of_ble_eq_true rfl⟩) hS (fun r_14 G_15 H locs hpo hW hS => ?_)
    obtain ⟨hB_G_15, hq_16, f_18, hp_17⟩ := hpo
    have hF := hF.call hq_16 (by decide) (by decide)
    refine lv_if_ne (tgt := 27) hx hb dX12_fewest_22 (by decide) (fun c_19 => ?_) (fun c_19 => ?_)
    · have c_19 : r_14.toInt ≠ 0 := xI_ne rfl rfl c_19
      refine lv_aload_n hx hb dX12_fewest_27 rfl (lv_at hl 0 rfl) ?_
      refine lv_iload_n hx hb dX12_fewest_28 rfl (lv_at hl 1 rfl) ?_
      refine lv_iload_n hx hb dX12_fewest_29 rfl (lv_at hl 2 rfl) ?_
      refine lv_iload_n hx hb dX12_fewest_30 rfl (lv_at hl 3 rfl) ?_
      have g_20 : gP G_15 = gP G := gP_fr (rs := []) (fs := [(66, 66)]) (((Fr.rf.put eG_1 (Or.inr (by decide))).call hq_8 (by decide) (by decide)).call hq_16 (by decide) (by decide)) (by decide) (by decide)
      refine S_callv (va_runV (As := [.int p0, .int p1, .int p2]) (rest := []) ⟨hx, hb, hml, hown, hts⟩ (n_layStreet l D k A a z G_15 p0 p1 p2 ⟨by omega, by omega⟩ ⟨by omega, by omega⟩ (by omega)) (cwV 3 hts (gd_V hgd m1834 m1836 m91 m131 m1837) rfl rfl rfl (by decide +kernel) ⟨Nat.le_of_ble_eq_true rfl, Nat.le_of_ble_eq_true rfl⟩) (pre_V hW hB_G_15 hK hZ hS kd_66 rfl) rfl rfl hl.1 rfl (lv_room (Nat.le_of_ble_eq_true rfl)) dX12_fewest_31 ⟨Nat.le_of_ble_eq_true rfl, Nat.le_of_ble_eq_true rfl⟩) hS (fun G_22 H locs hpo hW hS => ?_)
      obtain ⟨hB_G_22, hq_23, hp_24⟩ := hpo
      have hF := hF.call hq_23 (by decide) (by decide)
      have b_25 : 0 ≤ (G.1 66 53).toInt ∧ (G.1 66 53).toInt ≤ 4 := hB_G.i 66 53 rfl rfl
      have u_26 := gW_at hW9 p0 (by omega) (by omega)
      have u_27 : (G_15.1 92 p0.toNatClampNeg).toInt = (G.1 92 p0.toNatClampNeg).toInt := congrArg Int32.toInt (((hq_16.ri 92 (by decide) (by decide) p0.toNatClampNeg).trans ((hq_8.ri 92 (by decide) (by decide) p0.toNatClampNeg).trans (gp_ne eG_1 (fun q => absurd q.1 (by decide))))))
      have u_28 : (G_15.1 93 p0.toNatClampNeg).toInt = (G.1 93 p0.toNatClampNeg).toInt := congrArg Int32.toInt (((hq_16.ri 93 (by decide) (by decide) p0.toNatClampNeg).trans ((hq_8.ri 93 (by decide) (by decide) p0.toNatClampNeg).trans (gp_ne eG_1 (fun q => absurd q.1 (by decide))))))
      have u_29 : (G_15.1 94 p0.toNatClampNeg).toInt = (G.1 94 p0.toNatClampNeg).toInt := congrArg Int32.toInt (((hq_16.ri 94 (by decide) (by decide) p0.toNatClampNeg).trans ((hq_8.ri 94 (by decide) (by decide) p0.toNatClampNeg).trans (gp_ne eG_1 (fun q => absurd q.1 (by decide))))))
      have u_30 : (G_15.1 95 p0.toNatClampNeg).toInt = (G.1 95 p0.toNatClampNeg).toInt := congrArg Int32.toInt (((hq_16.ri 95 (by decide) (by decide) p0.toNatClampNeg).trans ((hq_8.ri 95 (by decide) (by decide) p0.toNatClampNeg).trans (gp_ne eG_1 (fun q => absurd q.1 (by decide))))))
      have b_31 : 0 ≤ (G_22.1 66 60).toInt ∧ (G_22.1 66 60).toInt ≤ 12 := hB_G_22.i 66 60 rfl rfl
      have b_32 : 0 ≤ (G_22.1 66 61).toInt ∧ (G_22.1 66 61).toInt ≤ 60 := hB_G_22.i 66 61 rfl rfl
      have b_33 : 0 ≤ (G_22.1 66 62).toInt ∧ (G_22.1 66 62).toInt ≤ 60 := hB_G_22.i 66 62 rfl rfl
      have b_34 : 0 ≤ (G_22.1 66 63).toInt ∧ (G_22.1 66 63).toInt ≤ 99 := hB_G_22.i 66 63 rfl rfl
      refine lv_aload_n hx hb dX12_fewest_34 rfl (lv_at hl 0 rfl) ?_
      have b_35 : 0 ≤ (G_22.1 98 400).toInt ∧ (G_22.1 98 400).toInt ≤ 1 := hB_G_22.i 98 400 rfl rfl
      refine S_callv (va_runV (As := []) (rest := []) ⟨hx, hb, hml, hown, hts⟩ (n_layNeeds l D k A a z G_22  (by omega) (by omega) (by omega)) (cwV 0 hts (gd_V hgd m1846 m1848 m93 m131 m1849) rfl rfl rfl (by decide +kernel) ⟨Nat.le_of_ble_eq_true rfl, Nat.le_of_ble_eq_true rfl⟩) (pre_V hW hB_G_22 hK hZ hS kd_66 rfl) rfl rfl hl.1 rfl (lv_room (Nat.le_of_ble_eq_true rfl)) dX12_fewest_35 ⟨Nat.le_of_ble_eq_true rfl, Nat.le_of_ble_eq_true rfl⟩) hS (fun G_37 H locs hpo hW hS => ?_)
      obtain ⟨hB_G_37, hq_38, hp_39⟩ := hpo
      have hF := hF.call hq_38 (by decide) (by decide)
      have g_40 : (G_37.1 66 61).toInt = (G_22.1 66 61).toInt := by rw [show G_37.1 66 61 = (G_22.1 66 61) from ((hq_38.i 66 61 (by decide) (by decide)).trans (rfl))]
      have g_41 : (G_37.1 66 62).toInt = (G_22.1 66 62).toInt := by rw [show G_37.1 66 62 = (G_22.1 66 62) from ((hq_38.i 66 62 (by decide) (by decide)).trans (rfl))]
      have g_42 : (G_37.1 66 63).toInt = (G_22.1 66 63).toInt := by rw [show G_37.1 66 63 = (G_22.1 66 63) from ((hq_38.i 66 63 (by decide) (by decide)).trans (rfl))]
      have g_43 : (G_37.1 98 400).toInt = (G_22.1 98 400).toInt := by rw [show G_37.1 98 400 = (G_22.1 98 400) from ((hq_38.i 98 400 (by decide) (by decide)).trans (rfl))]
      have hrow98 : G_37.1 98 = G_22.1 98 := (funext fun j => ((fun (j : Nat) (_ : True) => (hq_38.ri 98 (by decide) (by decide) j))) j trivial)
      refine lv_iconst (v := (-1)) hx hb dX12_fewest_38 (by decide) ?_
      refine lv_istore (lv' := [(5, .int (-1)), (0, .ref (a 66)), (1, .int p0), (2, .int p1), (3, .int p2), (4, .int p3)]) hx hb dX12_fewest_39 hl (by decide) rfl (fun ls hl => ?_)
      refine lv_iconst (v := 0) hx hb dX12_fewest_41 (by decide) ?_
      refine lv_istore (lv' := [(6, .int 0), (5, .int (-1)), (0, .ref (a 66)), (1, .int p0), (2, .int p1), (3, .int p2), (4, .int p3)]) hx hb dX12_fewest_42 hl (by decide) rfl (fun ls hl => ?_)
      have qc_50 : ((-1) : Int32).toInt = (-1) := rfl
      have qc_51 : (0 : Int32).toInt = 0 := rfl
      refine loop_N (Inv := fun n H locs ls => ∃ (G_44 : GS) (x_48 : Int32) (x_49 : Int32), (n : Int) = 60 - x_48.toInt ∧ (0 ≤ x_48.toInt ∧ x_48.toInt ≤ 60) ∧ ((-1) ≤ x_49.toInt ∧ x_49.toInt ≤ 59) ∧ (x_49.toInt = -1 ∨ ndv (G_37.1 99) x_49.toInt 0 p3.toInt < 100000) ∧ Wd D k A a G_44 H ∧ Bd G_44 ∧ Fr [100, 76, 97, 98, 99] [(66, 59), (66, 60), (66, 61), (66, 62), (66, 63), (66, 66)] G G_44 ∧ Fr [] [] G_37 G_44 ∧ va_S A s.heap H locs ∧ lv_has ls 11 [(6, .int x_48), (5, .int x_49), (0, .ref (a 66)), (4, .int p3)]) (fun n_47 H locs ls ih_46 hI => ?_) (60 - 0 : Int).toNat ⟨G_37, 0, (-1), (Int.toNat_of_nonneg (by omega)), ⟨by omega, by omega⟩, ⟨by omega, by omega⟩, (by omega), hW, hB_G_37, hF, Fr.rf, hS, lv_sub hl [0, 1, 2, 6] rfl⟩
      obtain ⟨G_44, x_48, x_49, hn_55, f_52, f_53, f_54, hW, hB_G_44, hF, hq_45, hS, hl⟩ := hI
      refine lv_iload hx hb dX12_fewest_44 (lv_at hl 0 rfl) ?_
      refine lv_aload_n hx hb dX12_fewest_46 rfl (lv_at hl 2 rfl) ?_
      refine S_getI (v := (G_22.1 66 62)) (C := RX12) (T := TX12) (N := 89) hx hb hg iX12 hown hK hW kd_66 rfl 62 (by decide) (hg (Cond.fieldLink RX12 478 "SlabWalkModel" "most" "I") m1376) (fun _ h9 => h9) rfl ((hq_45.i 66 62 (by decide) (by decide)).trans ((hq_38.i 66 62 (by decide) (by decide)).trans (rfl))) dX12_fewest_47 ?_
      refine lv_icmp_ge (tgt := 104) hx hb dX12_fewest_50 (by decide) (fun c_56 => ?_) (fun c_56 => ?_)
      · have c_56 : (G_22.1 66 62).toInt ≤ x_48.toInt := xI_le rfl rfl c_56
        refine lv_iload hx hb dX12_fewest_104 (lv_at hl 1 rfl) ?_
        refine lv_if_ge (tgt := 111) hx hb dX12_fewest_106 (by decide) (fun c_57 => ?_) (fun c_57 => ?_)
        · have c_57 : 0 ≤ x_49.toInt := xI_le rfl rfl c_57
          refine lv_aload_n hx hb dX12_fewest_111 rfl (lv_at hl 2 rfl) ?_
          refine lv_iload hx hb dX12_fewest_112 (lv_at hl 1 rfl) ?_
          refine lv_iconst (v := 0) hx hb dX12_fewest_114 (by decide) ?_
          refine lv_iload hx hb dX12_fewest_115 (lv_at hl 3 rfl) ?_
          have qc_58 : (0 : Int32).toInt = 0 := rfl
          refine S_calli (va_runV (As := [.int x_49, .int 0, .int p3]) (rest := []) ⟨hx, hb, hml, hown, hts⟩ (n_needOf l D k A a z G_44 x_49 0 p3 ⟨by omega, by omega⟩ ⟨by decide, by decide⟩ ⟨by omega, by omega⟩) (cwV 3 hts (gd_V hgd m1859 m1861 m96 m131 m1862) rfl rfl rfl (by decide +kernel) ⟨Nat.le_of_ble_eq_true rfl, Nat.le_of_ble_eq_true rfl⟩) (pre_V hW hB_G_44 hK hZ hS kd_66 rfl) rfl rfl hl.1 rfl (lv_room (Nat.le_of_ble_eq_true rfl)) dX12_fewest_117 ⟨Nat.le_of_ble_eq_true rfl, Nat.le_of_ble_eq_true rfl⟩) hS (fun r_59 G_60 H locs hpo hW hS => ?_)
          obtain ⟨hB_G_60, hq_61, f_63, hp_62⟩ := hpo
          have hF := hF.call hq_61 (by decide) (by decide)
          have hm_64 : r_59.toInt = ndv (G_37.1 99) x_49.toInt 0 p3.toInt := hp_62.trans (ndv_eq3 (show G_44.1 99 = G_37.1 99 from (funext fun j => ((fun (j : Nat) (_ : True) => (hq_45.ri 99 (by decide) (by decide) j))) j trivial)) rfl rfl rfl)
          have u_65 := PRG_1 hp_39 (x := x_49.toInt) (l := 0) (i := p3.toInt) (by omega) (by omega) (by omega) (by omega) (by omega)
          refine lv_istore (lv' := [(6, .int r_59), (5, .int x_49), (0, .ref (a 66)), (4, .int p3)]) hx hb dX12_fewest_120 hl (by decide) rfl (fun ls hl => ?_)
          refine lv_iload hx hb dX12_fewest_122 (lv_at hl 1 rfl) ?_
          refine lv_istore (lv' := [(7, .int x_49), (6, .int r_59), (5, .int x_49), (0, .ref (a 66)), (4, .int p3)]) hx hb dX12_fewest_124 hl (by decide) rfl (fun ls hl => ?_)
          refine lv_iload hx hb dX12_fewest_126 (lv_at hl 4 rfl) ?_
          refine lv_istore (lv' := [(8, .int p3), (7, .int x_49), (6, .int r_59), (5, .int x_49), (0, .ref (a 66)), (4, .int p3)]) hx hb dX12_fewest_128 hl (by decide) rfl (fun ls hl => ?_)
          refine lv_aload_n hx hb dX12_fewest_130 rfl (lv_at hl 4 rfl) ?_
          refine lv_iload hx hb dX12_fewest_131 (lv_at hl 1 rfl) ?_
          have g_66 : (G_60.1 66 66).toInt = 0 := by rw [show G_60.1 66 66 = 0 from ((hq_61.i 66 66 (by decide) (by decide)).trans ((hq_45.i 66 66 (by decide) (by decide)).trans ((hq_38.i 66 66 (by decide) (by decide)).trans ((hq_23.i 66 66 (by decide) (by decide)).trans ((hq_16.i 66 66 (by decide) (by decide)).trans ((hq_8.i 66 66 (by decide) (by decide)).trans (gp_eq eG_1)))))))]; rfl
          have g_67 : (G_60.1 66 66).toInt = 0 := by rw [show G_60.1 66 66 = 0 from ((hq_61.i 66 66 (by decide) (by decide)).trans ((hq_45.i 66 66 (by decide) (by decide)).trans ((hq_38.i 66 66 (by decide) (by decide)).trans ((hq_23.i 66 66 (by decide) (by decide)).trans ((hq_16.i 66 66 (by decide) (by decide)).trans ((hq_8.i 66 66 (by decide) (by decide)).trans (gp_eq eG_1)))))))]; rfl
          refine S_callv (va_runV (As := [.int x_49]) (rest := []) ⟨hx, hb, hml, hown, hts⟩ (n_lay l D k A a z G_60 x_49 (by omega)) (cwV 1 hts (gd_V hgd m1866 m1868 m97 m131 m1869) rfl rfl rfl (by decide +kernel) ⟨Nat.le_of_ble_eq_true rfl, Nat.le_of_ble_eq_true rfl⟩) (pre_V hW hB_G_60 hK hZ hS kd_66 rfl) rfl rfl hl.1 rfl (lv_room (Nat.le_of_ble_eq_true rfl)) dX12_fewest_133 ⟨Nat.le_of_ble_eq_true rfl, Nat.le_of_ble_eq_true rfl⟩) hS (fun G_69 H locs hpo hW hS => ?_)
          obtain ⟨hB_G_69, hq_70, hp_71⟩ := hpo
          have hF := hF.call hq_70 (by decide) (by decide)
          have b_72 : 0 ≤ (G_69.1 66 66).toInt ∧ (G_69.1 66 66).toInt ≤ 400 := hB_G_69.i 66 66 rfl rfl
          have hf_73 : FWp (G_37.1 99) x_49.toInt p3.toInt (r_59.toInt - (G_69.1 66 66).toInt + 1) := ⟨0, Or.inl rfl, by omega⟩
          refine loop_N (Inv := fun n H locs ls => ∃ (G_74 : GS) (x_78 : Int32) (x_79 : Int32), (n : Int) = r_59.toInt - (G_74.1 66 66).toInt ∧ (0 ≤ x_78.toInt ∧ x_78.toInt ≤ 2) ∧ (0 ≤ x_79.toInt ∧ x_79.toInt ≤ 399) ∧ (1 ≤ (G_74.1 66 66).toInt ∧ (G_74.1 66 66).toInt ≤ x_79.toInt + 1 ∧ (G_74.1 66 66).toInt ≤ r_59.toInt) ∧ (FWp (G_37.1 99) x_79.toInt x_78.toInt (r_59.toInt - (G_74.1 66 66).toInt + 1)) ∧ Wd D k A a G_74 H ∧ Bd G_74 ∧ Fr [100, 76, 97, 98, 99] [(66, 59), (66, 60), (66, 61), (66, 62), (66, 63), (66, 66)] G G_74 ∧ Fr [100] [(66, 66)] G_69 G_74 ∧ va_S A s.heap H locs ∧ lv_has ls 11 [(8, .int x_78), (7, .int x_79), (6, .int r_59), (0, .ref (a 66))]) (fun n_77 H locs ls ih_76 hI => ?_) (r_59.toInt - (G_69.1 66 66).toInt : Int).toNat ⟨G_69, p3, x_49, (Int.toNat_of_nonneg (by omega)), ⟨by omega, by omega⟩, ⟨by omega, by omega⟩, (by omega), (by assumption), hW, hB_G_69, hF, Fr.rf, hS, lv_sub hl [0, 1, 2, 4] rfl⟩
          obtain ⟨G_74, x_78, x_79, hn_84, f_80, f_81, f_82, f_83, hW, hB_G_74, hF, hq_75, hS, hl⟩ := hI
          have b_85 : 0 ≤ (G_74.1 66 66).toInt ∧ (G_74.1 66 66).toInt ≤ 400 := hB_G_74.i 66 66 rfl rfl
          refine lv_aload_n hx hb dX12_fewest_136 rfl (lv_at hl 3 rfl) ?_
          refine S_getI (v := (G_74.1 66 66)) (C := RX12) (T := TX12) (N := 89) hx hb hg iX12 hown hK hW kd_66 rfl 66 (by decide) (hg (Cond.fieldLink RX12 446 "SlabWalkModel" "lain" "I") m1380) (fun _ h9 => h9) rfl rfl dX12_fewest_137 ?_
          refine lv_iload hx hb dX12_fewest_140 (lv_at hl 2 rfl) ?_
          refine lv_icmp_ge (tgt := 243) hx hb dX12_fewest_142 (by decide) (fun c_86 => ?_) (fun c_86 => ?_)
          · have c_86 : r_59.toInt ≤ (G_74.1 66 66).toInt := xI_le rfl rfl c_86
            refine lv_iload hx hb dX12_fewest_243 (lv_at hl 2 rfl) ?_
            exact W.iret (v := r_59) hx hb hr (fun t ht _ => ⟨⟨r_59, G_74, rfl, ⟨hB_G_74, hF⟩, wd_t ht hW⟩, hS.F ht⟩) hS.2.2 dX12_fewest_245
          · have c_86 : (G_74.1 66 66).toInt < r_59.toInt := xI_nle rfl rfl c_86
            refine lv_iload hx hb dX12_fewest_145 (lv_at hl 2 rfl) ?_
            refine lv_aload_n hx hb dX12_fewest_147 rfl (lv_at hl 3 rfl) ?_
            refine S_getI (v := (G_74.1 66 66)) (C := RX12) (T := TX12) (N := 89) hx hb hg iX12 hown hK hW kd_66 rfl 66 (by decide) (hg (Cond.fieldLink RX12 446 "SlabWalkModel" "lain" "I") m1380) (fun _ h9 => h9) rfl rfl dX12_fewest_148 ?_
            refine lv_isub hx hb dX12_fewest_151 ?_
            refine lv_topi (fun y_87 ey_87 => ?_)
            have ty_87 : y_87.toInt = r_59.toInt - (G_74.1 66 66).toInt := xI_sub rfl rfl ey_87 (by omega) (by omega)
            refine lv_istore (lv' := [(9, .int y_87), (8, .int x_78), (7, .int x_79), (6, .int r_59), (0, .ref (a 66))]) hx hb dX12_fewest_152 hl (by decide) rfl (fun ls hl => ?_)
            refine lv_iload hx hb dX12_fewest_154 (lv_at hl 1 rfl) ?_
            refine lv_if_ne (tgt := 163) hx hb dX12_fewest_156 (by decide) (fun c_88 => ?_) (fun c_88 => ?_)
            · have c_88 : x_78.toInt ≠ 0 := xI_ne rfl rfl c_88
              refine lv_iconst (v := 3) hx hb dX12_fewest_163 (by decide) ?_
              refine lv_iload hx hb dX12_fewest_164 (lv_at hl 1 rfl) ?_
              refine lv_isub hx hb dX12_fewest_166 ?_
              refine lv_topi (fun y_89 ey_89 => ?_)
              have ty_89 : y_89.toInt = 3 - x_78.toInt := xI_sub rfl rfl ey_89 (by omega) (by omega)
              refine lv_istore (lv' := [(8, .int y_89), (9, .int y_87), (7, .int x_79), (6, .int r_59), (0, .ref (a 66))]) hx hb dX12_fewest_167 hl (by decide) rfl (fun ls hl => ?_)
              refine lv_aload_n hx hb dX12_fewest_169 rfl (lv_at hl 4 rfl) ?_
              refine S_getI (v := (G_22.1 66 61)) (C := RX12) (T := TX12) (N := 89) hx hb hg iX12 hown hK hW kd_66 rfl 61 (by decide) (hg (Cond.fieldLink RX12 475 "SlabWalkModel" "least" "I") m1375) (fun _ h9 => h9) rfl ((hq_75.i 66 61 (by decide) (by decide)).trans ((hq_70.i 66 61 (by decide) (by decide)).trans ((hq_61.i 66 61 (by decide) (by decide)).trans ((hq_45.i 66 61 (by decide) (by decide)).trans ((hq_38.i 66 61 (by decide) (by decide)).trans (rfl)))))) dX12_fewest_170 ?_
              obtain ⟨l9, hl9, he9⟩ := (show FWp (G_37.1 99) x_79.toInt x_78.toInt (r_59.toInt - (G_74.1 66 66).toInt + 1) by assumption)
              obtain ⟨b9, hb1, hb2, hb3, hb4⟩ := (PRG_ex hp_39 (x := x_79.toInt) (l := l9) (i := x_78.toInt) (by omega) (by omega) hl9 (by omega) (by omega)).2 (by omega) (by omega)
              have hb5 := lw400 hB_G_37 (by omega) _ (by omega) hb3
              rw [hrow98] at hb3
              have hfl := flI_v x_78.toInt
              have htr := trI_v b9 (G_37.1 66 62).toInt
              have hlz : (G_22.1 66 61).toInt = (G_37.1 66 61).toInt := by omega
              refine lv_istore (lv' := [(10, .int (G_22.1 66 61)), (8, .int y_89), (9, .int y_87), (7, .int x_79), (6, .int r_59), (0, .ref (a 66))]) hx hb dX12_fewest_173 hl (by decide) rfl (fun ls hl => ?_)
              refine loop_N (Inv := fun n H locs ls => ∃ (G_90 : GS) (x_94 : Int32), (n : Int) = b9 - x_94.toInt ∧ (0 ≤ x_94.toInt ∧ x_94.toInt ≤ 99) ∧ (x_94.toInt ≤ b9) ∧ ((G_37.1 66 61).toInt ≤ x_94.toInt) ∧ Wd D k A a G_90 H ∧ Bd G_90 ∧ Fr [100, 76, 97, 98, 99] [(66, 59), (66, 60), (66, 61), (66, 62), (66, 63), (66, 66)] G G_90 ∧ Fr [] [] G_74 G_90 ∧ va_S A s.heap H locs ∧ lv_has ls 11 [(10, .int x_94), (8, .int y_89), (9, .int y_87), (7, .int x_79), (6, .int r_59), (0, .ref (a 66))]) (fun n_93 H locs ls ih_92 hI => ?_) (b9 - (G_22.1 66 61).toInt : Int).toNat ⟨G_74, (G_22.1 66 61), (Int.toNat_of_nonneg (by omega)), ⟨by omega, by omega⟩, (by omega), (by omega), hW, hB_G_74, hF, Fr.rf, hS, lv_sub hl [0, 1, 2, 3, 4, 5] rfl⟩
              obtain ⟨G_90, x_94, hn_98, f_95, f_96, f_97, hW, hB_G_90, hF, hq_91, hS, hl⟩ := hI
              refine lv_aload_n hx hb dX12_fewest_175 rfl (lv_at hl 5 rfl) ?_
              refine S_getR (n := 98) (C := RX12) (T := TX12) (N := 89) hx hb hg iX12 hown hK hW kd_66 rfl 58 (by decide) (hg (Cond.fieldLink RX12 115 "SlabWalkModel" "lawful" "[Z") m1372) (fun _ h9 => h9) rfl dX12_fewest_176 ?_
              refine lv_iload hx hb dX12_fewest_179 (lv_at hl 3 rfl) ?_
              refine lv_iload hx hb dX12_fewest_181 (lv_at hl 0 rfl) ?_
              refine lv_iadd hx hb dX12_fewest_183 ?_
              refine lv_topi (fun y_99 ey_99 => ?_)
              have ty_99 : y_99.toInt = x_79.toInt + x_94.toInt := xI_add rfl rfl ey_99 (by omega) (by omega)
              refine S_zald hx hb hK hW kd_98 (vin (by omega) (by omega)) dX12_fewest_184 (fun y_100 ey_100 => ?_)
              have ty_100 := hB_G_90.law ey_100
              have u_101 : y_100.toInt = (G_22.1 98 y_99.toNatClampNeg).toInt := congrArg Int32.toInt (ey_100.trans (((hq_91.ri 98 (by decide) (by decide) y_99.toNatClampNeg).trans ((hq_75.ri 98 (by decide) (by decide) y_99.toNatClampNeg).trans ((hq_70.ri 98 (by decide) (by decide) y_99.toNatClampNeg).trans ((hq_61.ri 98 (by decide) (by decide) y_99.toNatClampNeg).trans ((hq_45.ri 98 (by decide) (by decide) y_99.toNatClampNeg).trans (hq_38.ri 98 (by decide) (by decide) y_99.toNatClampNeg))))))))
              have u_102 : x_94.toInt = b9 → y_100.toInt = 1 := fun q => (lw_iff (L := G_22.1 98) (x := y_99) (y := y_100) (X := x_79.toInt + b9) (by omega) (by omega)).mp hb3
              refine lv_if_eq (tgt := 221) hx hb dX12_fewest_185 (by decide) (fun c_103 => ?_) (fun c_103 => ?_)
              · have c_103 : y_100.toInt = 0 := xI_eq rfl rfl c_103
                obtain ⟨y_104, ey_104⟩ : ∃ q, q = x_94 + 1 := ⟨_, rfl⟩
                have ty_104 : y_104.toInt = x_94.toInt + 1 := xI_add rfl rfl ey_104 (by omega) (by omega)
                refine lv_iinc (v := y_104) (lv' := [(10, .int y_104), (8, .int y_89), (9, .int y_87), (7, .int x_79), (6, .int r_59), (0, .ref (a 66))]) hx hb dX12_fewest_221 hl (k := 0) rfl (by rw [ey_104]; rfl) (by decide) rfl (fun ls hl => ?_)
                refine lv_goto (tgt := 175) hx hb dX12_fewest_224 (by decide) ?_
                exact ih_92 (b9 - y_104.toInt : Int).toNat (by omega) _ _ _ ⟨G_90, y_104, (Int.toNat_of_nonneg (by omega)), ⟨by omega, by omega⟩, (by omega), (by omega), hW, hB_G_90, hF, (Fr.rf.call hq_91 (by decide) (by decide)), hS, lv_sub hl [0, 1, 2, 3, 4, 5] rfl⟩
              · have c_103 : y_100.toInt ≠ 0 := xI_ne rfl rfl c_103
                refine lv_aload_n hx hb dX12_fewest_188 rfl (lv_at hl 5 rfl) ?_
                refine lv_iload hx hb dX12_fewest_189 (lv_at hl 3 rfl) ?_
                refine lv_iload hx hb dX12_fewest_191 (lv_at hl 0 rfl) ?_
                refine lv_iadd hx hb dX12_fewest_193 ?_
                refine lv_topi (fun y_105 ey_105 => ?_)
                have ty_105 : y_105.toInt = x_79.toInt + x_94.toInt := xI_add rfl rfl ey_105 (by omega) (by omega)
                refine lv_iload hx hb dX12_fewest_194 (lv_at hl 0 rfl) ?_
                refine lv_aload_n hx hb dX12_fewest_196 rfl (lv_at hl 5 rfl) ?_
                refine S_getI (v := (G_22.1 66 62)) (C := RX12) (T := TX12) (N := 89) hx hb hg iX12 hown hK hW kd_66 rfl 62 (by decide) (hg (Cond.fieldLink RX12 478 "SlabWalkModel" "most" "I") m1376) (fun _ h9 => h9) rfl ((hq_91.i 66 62 (by decide) (by decide)).trans ((hq_75.i 66 62 (by decide) (by decide)).trans ((hq_70.i 66 62 (by decide) (by decide)).trans ((hq_61.i 66 62 (by decide) (by decide)).trans ((hq_45.i 66 62 (by decide) (by decide)).trans ((hq_38.i 66 62 (by decide) (by decide)).trans (rfl))))))) dX12_fewest_197 ?_
                refine lv_icmp_le (tgt := 207) hx hb dX12_fewest_200 (by decide) (fun c_106 => ?_) (fun c_106 => ?_)
                · have c_106 : x_94.toInt ≤ (G_22.1 66 62).toInt := xI_le rfl rfl c_106
                  refine lv_iconst (v := 0) hx hb dX12_fewest_207 (by decide) ?_
                  have qc_107 : (0 : Int32).toInt = 0 := rfl
                  refine S_calli (va_runS (As := [.int 0]) (rest := [.int y_105, .ref (a 66)]) ⟨hx, hb, hml, hown, hts⟩ (n_truth l D k A a z G_90 0 ⟨by decide, by decide⟩) (va_cwS 1 hts (gd_S hgd m1788 m1789 m131 m1790) rfl rfl rfl (by decide +kernel) ⟨Nat.le_of_ble_eq_true rfl, Nat.le_of_ble_eq_true rfl⟩) (pre_S hW hB_G_90 hK hZ hS) rfl rfl hl.1 rfl (lv_room (Nat.le_of_ble_eq_true rfl)) dX12_fewest_208 ⟨Nat.le_of_ble_eq_true rfl, Nat.le_of_ble_eq_true rfl⟩) hS (fun r_108 G_109 H locs hpo hW hS => ?_)
                  obtain ⟨hB_G_109, hq_110, f_112, hp_111, -⟩ := hpo
                  have hF := hF.call hq_110 (by decide) (by decide)
                  refine lv_iload hx hb dX12_fewest_211 (lv_at hl 1 rfl) ?_
                  refine S_calli (va_runV (As := [.int y_105, .int r_108, .int y_89]) (rest := []) ⟨hx, hb, hml, hown, hts⟩ (n_needOf l D k A a z G_109 y_105 r_108 y_89 ⟨by omega, by omega⟩ ⟨by omega, by omega⟩ ⟨by omega, by omega⟩) (cwV 3 hts (gd_V hgd m1859 m1861 m96 m131 m1862) rfl rfl rfl (by decide +kernel) ⟨Nat.le_of_ble_eq_true rfl, Nat.le_of_ble_eq_true rfl⟩) (pre_V hW hB_G_109 hK hZ hS kd_66 rfl) rfl rfl hl.1 rfl (lv_room (Nat.le_of_ble_eq_true rfl)) dX12_fewest_213 ⟨Nat.le_of_ble_eq_true rfl, Nat.le_of_ble_eq_true rfl⟩) hS (fun r_113 G_114 H locs hpo hW hS => ?_)
                  obtain ⟨hB_G_114, hq_115, f_117, hp_116⟩ := hpo
                  have hF := hF.call hq_115 (by decide) (by decide)
                  have hm_118 : r_113.toInt = ndv (G_37.1 99) y_105.toInt r_108.toInt y_89.toInt := hp_116.trans (ndv_eq3 (show G_109.1 99 = G_37.1 99 from (funext fun j => ((fun (j : Nat) (_ : True) => ((hq_110.ri 99 (by decide) (by decide) j).trans ((hq_91.ri 99 (by decide) (by decide) j).trans ((hq_75.ri 99 (by decide) (by decide) j).trans ((hq_70.ri 99 (by decide) (by decide) j).trans ((hq_61.ri 99 (by decide) (by decide) j).trans (hq_45.ri 99 (by decide) (by decide) j)))))))) j trivial)) rfl rfl rfl)
                  have u_119 := PRG_1 hp_39 (x := y_105.toInt) (l := r_108.toInt) (i := y_89.toInt) (by omega) (by omega) (by omega) (by omega) (by omega)
                  have u_120 : x_94.toInt = b9 → r_113.toInt = y_87.toInt := fun q => (hm_118.trans ((ndv_eq3 rfl (by omega) (by omega) (by omega)).trans hb4)).trans (by omega)
                  refine lv_iload hx hb dX12_fewest_216 (lv_at hl 2 rfl) ?_
                  refine lv_icmp_eq (tgt := 227) hx hb dX12_fewest_218 (by decide) (fun c_121 => ?_) (fun c_121 => ?_)
                  · have c_121 : r_113.toInt = y_87.toInt := xI_eq rfl rfl c_121
                    refine lv_iload hx hb dX12_fewest_227 (lv_at hl 3 rfl) ?_
                    refine lv_iload hx hb dX12_fewest_229 (lv_at hl 0 rfl) ?_
                    refine lv_iadd hx hb dX12_fewest_231 ?_
                    refine lv_topi (fun y_122 ey_122 => ?_)
                    have ty_122 : y_122.toInt = x_79.toInt + x_94.toInt := xI_add rfl rfl ey_122 (by omega) (by omega)
                    refine lv_istore (lv' := [(7, .int y_122), (10, .int x_94), (8, .int y_89), (9, .int y_87), (6, .int r_59), (0, .ref (a 66))]) hx hb dX12_fewest_232 hl (by decide) rfl (fun ls hl => ?_)
                    refine lv_aload_n hx hb dX12_fewest_234 rfl (lv_at hl 5 rfl) ?_
                    refine lv_iload hx hb dX12_fewest_235 (lv_at hl 0 rfl) ?_
                    have g_123 : (G_114.1 66 66).toInt = (G_74.1 66 66).toInt := by rw [show G_114.1 66 66 = (G_74.1 66 66) from ((hq_115.i 66 66 (by decide) (by decide)).trans ((hq_110.i 66 66 (by decide) (by decide)).trans ((hq_91.i 66 66 (by decide) (by decide)).trans (rfl))))]
                    have g_124 : (G_114.1 66 66).toInt = (G_74.1 66 66).toInt := by rw [show G_114.1 66 66 = (G_74.1 66 66) from ((hq_115.i 66 66 (by decide) (by decide)).trans ((hq_110.i 66 66 (by decide) (by decide)).trans ((hq_91.i 66 66 (by decide) (by decide)).trans (rfl))))]
                    refine S_callv (va_runV (As := [.int y_122]) (rest := []) ⟨hx, hb, hml, hown, hts⟩ (n_lay l D k A a z G_114 y_122 (by omega)) (cwV 1 hts (gd_V hgd m1866 m1868 m97 m131 m1869) rfl rfl rfl (by decide +kernel) ⟨Nat.le_of_ble_eq_true rfl, Nat.le_of_ble_eq_true rfl⟩) (pre_V hW hB_G_114 hK hZ hS kd_66 rfl) rfl rfl hl.1 rfl (lv_room (Nat.le_of_ble_eq_true rfl)) dX12_fewest_237 ⟨Nat.le_of_ble_eq_true rfl, Nat.le_of_ble_eq_true rfl⟩) hS (fun G_126 H locs hpo hW hS => ?_)
                    obtain ⟨hB_G_126, hq_127, hp_128⟩ := hpo
                    have hF := hF.call hq_127 (by decide) (by decide)
                    have b_129 : 0 ≤ (G_126.1 66 66).toInt ∧ (G_126.1 66 66).toInt ≤ 400 := hB_G_126.i 66 66 rfl rfl
                    have hf_130 : FWp (G_37.1 99) y_122.toInt y_89.toInt (r_59.toInt - (G_126.1 66 66).toInt + 1) := ⟨r_108.toInt, by omega, (ndv_eq3 rfl (by omega) rfl rfl).trans (hm_118.symm.trans (by omega))⟩
                    refine lv_goto (tgt := 136) hx hb dX12_fewest_240 (by decide) ?_
                    exact ih_76 (r_59.toInt - (G_126.1 66 66).toInt : Int).toNat (by omega) _ _ _ ⟨G_126, y_89, y_122, (Int.toNat_of_nonneg (by omega)), ⟨by omega, by omega⟩, ⟨by omega, by omega⟩, (by omega), (by assumption), hW, hB_G_126, hF, (((((Fr.rf.call hq_75 (by decide) (by decide)).call hq_91 (by decide) (by decide)).call hq_110 (by decide) (by decide)).call hq_115 (by decide) (by decide)).call hq_127 (by decide) (by decide)), hS, lv_sub hl [2, 0, 4, 5] rfl⟩
                  · have c_121 : r_113.toInt ≠ y_87.toInt := xI_ne rfl rfl c_121
                    obtain ⟨y_131, ey_131⟩ : ∃ q, q = x_94 + 1 := ⟨_, rfl⟩
                    have ty_131 : y_131.toInt = x_94.toInt + 1 := xI_add rfl rfl ey_131 (by omega) (by omega)
                    refine lv_iinc (v := y_131) (lv' := [(10, .int y_131), (8, .int y_89), (9, .int y_87), (7, .int x_79), (6, .int r_59), (0, .ref (a 66))]) hx hb dX12_fewest_221 hl (k := 0) rfl (by rw [ey_131]; rfl) (by decide) rfl (fun ls hl => ?_)
                    refine lv_goto (tgt := 175) hx hb dX12_fewest_224 (by decide) ?_
                    exact ih_92 (b9 - y_131.toInt : Int).toNat (by omega) _ _ _ ⟨G_114, y_131, (Int.toNat_of_nonneg (by omega)), ⟨by omega, by omega⟩, (by omega), (by omega), hW, hB_G_114, hF, (((Fr.rf.call hq_91 (by decide) (by decide)).call hq_110 (by decide) (by decide)).call hq_115 (by decide) (by decide)), hS, lv_sub hl [0, 1, 2, 3, 4, 5] rfl⟩
                · have c_106 : (G_22.1 66 62).toInt < x_94.toInt := xI_nle rfl rfl c_106
                  refine lv_iconst (v := 1) hx hb dX12_fewest_203 (by decide) ?_
                  refine lv_goto (tgt := 208) hx hb dX12_fewest_204 (by decide) ?_
                  have qc_132 : (1 : Int32).toInt = 1 := rfl
                  refine S_calli (va_runS (As := [.int 1]) (rest := [.int y_105, .ref (a 66)]) ⟨hx, hb, hml, hown, hts⟩ (n_truth l D k A a z G_90 1 ⟨by decide, by decide⟩) (va_cwS 1 hts (gd_S hgd m1788 m1789 m131 m1790) rfl rfl rfl (by decide +kernel) ⟨Nat.le_of_ble_eq_true rfl, Nat.le_of_ble_eq_true rfl⟩) (pre_S hW hB_G_90 hK hZ hS) rfl rfl hl.1 rfl (lv_room (Nat.le_of_ble_eq_true rfl)) dX12_fewest_208 ⟨Nat.le_of_ble_eq_true rfl, Nat.le_of_ble_eq_true rfl⟩) hS (fun r_133 G_134 H locs hpo hW hS => ?_)
                  obtain ⟨hB_G_134, hq_135, f_137, hp_136, -⟩ := hpo
                  have hF := hF.call hq_135 (by decide) (by decide)
                  refine lv_iload hx hb dX12_fewest_211 (lv_at hl 1 rfl) ?_
                  refine S_calli (va_runV (As := [.int y_105, .int r_133, .int y_89]) (rest := []) ⟨hx, hb, hml, hown, hts⟩ (n_needOf l D k A a z G_134 y_105 r_133 y_89 ⟨by omega, by omega⟩ ⟨by omega, by omega⟩ ⟨by omega, by omega⟩) (cwV 3 hts (gd_V hgd m1859 m1861 m96 m131 m1862) rfl rfl rfl (by decide +kernel) ⟨Nat.le_of_ble_eq_true rfl, Nat.le_of_ble_eq_true rfl⟩) (pre_V hW hB_G_134 hK hZ hS kd_66 rfl) rfl rfl hl.1 rfl (lv_room (Nat.le_of_ble_eq_true rfl)) dX12_fewest_213 ⟨Nat.le_of_ble_eq_true rfl, Nat.le_of_ble_eq_true rfl⟩) hS (fun r_138 G_139 H locs hpo hW hS => ?_)
                  obtain ⟨hB_G_139, hq_140, f_142, hp_141⟩ := hpo
                  have hF := hF.call hq_140 (by decide) (by decide)
                  have hm_143 : r_138.toInt = ndv (G_37.1 99) y_105.toInt r_133.toInt y_89.toInt := hp_141.trans (ndv_eq3 (show G_134.1 99 = G_37.1 99 from (funext fun j => ((fun (j : Nat) (_ : True) => ((hq_135.ri 99 (by decide) (by decide) j).trans ((hq_91.ri 99 (by decide) (by decide) j).trans ((hq_75.ri 99 (by decide) (by decide) j).trans ((hq_70.ri 99 (by decide) (by decide) j).trans ((hq_61.ri 99 (by decide) (by decide) j).trans (hq_45.ri 99 (by decide) (by decide) j)))))))) j trivial)) rfl rfl rfl)
                  have u_144 := PRG_1 hp_39 (x := y_105.toInt) (l := r_133.toInt) (i := y_89.toInt) (by omega) (by omega) (by omega) (by omega) (by omega)
                  have u_145 : x_94.toInt = b9 → r_138.toInt = y_87.toInt := fun q => (hm_143.trans ((ndv_eq3 rfl (by omega) (by omega) (by omega)).trans hb4)).trans (by omega)
                  refine lv_iload hx hb dX12_fewest_216 (lv_at hl 2 rfl) ?_
                  refine lv_icmp_eq (tgt := 227) hx hb dX12_fewest_218 (by decide) (fun c_146 => ?_) (fun c_146 => ?_)
                  · have c_146 : r_138.toInt = y_87.toInt := xI_eq rfl rfl c_146
                    refine lv_iload hx hb dX12_fewest_227 (lv_at hl 3 rfl) ?_
                    refine lv_iload hx hb dX12_fewest_229 (lv_at hl 0 rfl) ?_
                    refine lv_iadd hx hb dX12_fewest_231 ?_
                    refine lv_topi (fun y_147 ey_147 => ?_)
                    have ty_147 : y_147.toInt = x_79.toInt + x_94.toInt := xI_add rfl rfl ey_147 (by omega) (by omega)
                    refine lv_istore (lv' := [(7, .int y_147), (10, .int x_94), (8, .int y_89), (9, .int y_87), (6, .int r_59), (0, .ref (a 66))]) hx hb dX12_fewest_232 hl (by decide) rfl (fun ls hl => ?_)
                    refine lv_aload_n hx hb dX12_fewest_234 rfl (lv_at hl 5 rfl) ?_
                    refine lv_iload hx hb dX12_fewest_235 (lv_at hl 0 rfl) ?_
                    have g_148 : (G_139.1 66 66).toInt = (G_74.1 66 66).toInt := by rw [show G_139.1 66 66 = (G_74.1 66 66) from ((hq_140.i 66 66 (by decide) (by decide)).trans ((hq_135.i 66 66 (by decide) (by decide)).trans ((hq_91.i 66 66 (by decide) (by decide)).trans (rfl))))]
                    have g_149 : (G_139.1 66 66).toInt = (G_74.1 66 66).toInt := by rw [show G_139.1 66 66 = (G_74.1 66 66) from ((hq_140.i 66 66 (by decide) (by decide)).trans ((hq_135.i 66 66 (by decide) (by decide)).trans ((hq_91.i 66 66 (by decide) (by decide)).trans (rfl))))]
                    refine S_callv (va_runV (As := [.int y_147]) (rest := []) ⟨hx, hb, hml, hown, hts⟩ (n_lay l D k A a z G_139 y_147 (by omega)) (cwV 1 hts (gd_V hgd m1866 m1868 m97 m131 m1869) rfl rfl rfl (by decide +kernel) ⟨Nat.le_of_ble_eq_true rfl, Nat.le_of_ble_eq_true rfl⟩) (pre_V hW hB_G_139 hK hZ hS kd_66 rfl) rfl rfl hl.1 rfl (lv_room (Nat.le_of_ble_eq_true rfl)) dX12_fewest_237 ⟨Nat.le_of_ble_eq_true rfl, Nat.le_of_ble_eq_true rfl⟩) hS (fun G_151 H locs hpo hW hS => ?_)
                    obtain ⟨hB_G_151, hq_152, hp_153⟩ := hpo
                    have hF := hF.call hq_152 (by decide) (by decide)
                    have b_154 : 0 ≤ (G_151.1 66 66).toInt ∧ (G_151.1 66 66).toInt ≤ 400 := hB_G_151.i 66 66 rfl rfl
                    have hf_155 : FWp (G_37.1 99) y_147.toInt y_89.toInt (r_59.toInt - (G_151.1 66 66).toInt + 1) := ⟨r_133.toInt, by omega, (ndv_eq3 rfl (by omega) rfl rfl).trans (hm_143.symm.trans (by omega))⟩
                    refine lv_goto (tgt := 136) hx hb dX12_fewest_240 (by decide) ?_
                    exact ih_76 (r_59.toInt - (G_151.1 66 66).toInt : Int).toNat (by omega) _ _ _ ⟨G_151, y_89, y_147, (Int.toNat_of_nonneg (by omega)), ⟨by omega, by omega⟩, ⟨by omega, by omega⟩, (by omega), (by assumption), hW, hB_G_151, hF, (((((Fr.rf.call hq_75 (by decide) (by decide)).call hq_91 (by decide) (by decide)).call hq_135 (by decide) (by decide)).call hq_140 (by decide) (by decide)).call hq_152 (by decide) (by decide)), hS, lv_sub hl [2, 0, 4, 5] rfl⟩
                  · have c_146 : r_138.toInt ≠ y_87.toInt := xI_ne rfl rfl c_146
                    obtain ⟨y_156, ey_156⟩ : ∃ q, q = x_94 + 1 := ⟨_, rfl⟩
                    have ty_156 : y_156.toInt = x_94.toInt + 1 := xI_add rfl rfl ey_156 (by omega) (by omega)
                    refine lv_iinc (v := y_156) (lv' := [(10, .int y_156), (8, .int y_89), (9, .int y_87), (7, .int x_79), (6, .int r_59), (0, .ref (a 66))]) hx hb dX12_fewest_221 hl (k := 0) rfl (by rw [ey_156]; rfl) (by decide) rfl (fun ls hl => ?_)
                    refine lv_goto (tgt := 175) hx hb dX12_fewest_224 (by decide) ?_
                    exact ih_92 (b9 - y_156.toInt : Int).toNat (by omega) _ _ _ ⟨G_139, y_156, (Int.toNat_of_nonneg (by omega)), ⟨by omega, by omega⟩, (by omega), (by omega), hW, hB_G_139, hF, (((Fr.rf.call hq_91 (by decide) (by decide)).call hq_135 (by decide) (by decide)).call hq_140 (by decide) (by decide)), hS, lv_sub hl [0, 1, 2, 3, 4, 5] rfl⟩
            · have c_88 : x_78.toInt = 0 := xI_eq rfl rfl c_88
              refine lv_iconst (v := 0) hx hb dX12_fewest_159 (by decide) ?_
              refine lv_goto (tgt := 167) hx hb dX12_fewest_160 (by decide) ?_
              refine lv_istore (lv' := [(8, .int 0), (9, .int y_87), (7, .int x_79), (6, .int r_59), (0, .ref (a 66))]) hx hb dX12_fewest_167 hl (by decide) rfl (fun ls hl => ?_)
              refine lv_aload_n hx hb dX12_fewest_169 rfl (lv_at hl 4 rfl) ?_
              refine S_getI (v := (G_22.1 66 61)) (C := RX12) (T := TX12) (N := 89) hx hb hg iX12 hown hK hW kd_66 rfl 61 (by decide) (hg (Cond.fieldLink RX12 475 "SlabWalkModel" "least" "I") m1375) (fun _ h9 => h9) rfl ((hq_75.i 66 61 (by decide) (by decide)).trans ((hq_70.i 66 61 (by decide) (by decide)).trans ((hq_61.i 66 61 (by decide) (by decide)).trans ((hq_45.i 66 61 (by decide) (by decide)).trans ((hq_38.i 66 61 (by decide) (by decide)).trans (rfl)))))) dX12_fewest_170 ?_
              obtain ⟨l9, hl9, he9⟩ := (show FWp (G_37.1 99) x_79.toInt x_78.toInt (r_59.toInt - (G_74.1 66 66).toInt + 1) by assumption)
              obtain ⟨b9, hb1, hb2, hb3, hb4⟩ := (PRG_ex hp_39 (x := x_79.toInt) (l := l9) (i := x_78.toInt) (by omega) (by omega) hl9 (by omega) (by omega)).2 (by omega) (by omega)
              have hb5 := lw400 hB_G_37 (by omega) _ (by omega) hb3
              rw [hrow98] at hb3
              have hfl := flI_v x_78.toInt
              have htr := trI_v b9 (G_37.1 66 62).toInt
              have hlz : (G_22.1 66 61).toInt = (G_37.1 66 61).toInt := by omega
              refine lv_istore (lv' := [(10, .int (G_22.1 66 61)), (8, .int 0), (9, .int y_87), (7, .int x_79), (6, .int r_59), (0, .ref (a 66))]) hx hb dX12_fewest_173 hl (by decide) rfl (fun ls hl => ?_)
              refine loop_N (Inv := fun n H locs ls => ∃ (G_157 : GS) (x_161 : Int32), (n : Int) = b9 - x_161.toInt ∧ (0 ≤ x_161.toInt ∧ x_161.toInt ≤ 99) ∧ (x_161.toInt ≤ b9) ∧ ((G_37.1 66 61).toInt ≤ x_161.toInt) ∧ Wd D k A a G_157 H ∧ Bd G_157 ∧ Fr [100, 76, 97, 98, 99] [(66, 59), (66, 60), (66, 61), (66, 62), (66, 63), (66, 66)] G G_157 ∧ Fr [] [] G_74 G_157 ∧ va_S A s.heap H locs ∧ lv_has ls 11 [(10, .int x_161), (8, .int 0), (9, .int y_87), (7, .int x_79), (6, .int r_59), (0, .ref (a 66))]) (fun n_160 H locs ls ih_159 hI => ?_) (b9 - (G_22.1 66 61).toInt : Int).toNat ⟨G_74, (G_22.1 66 61), (Int.toNat_of_nonneg (by omega)), ⟨by omega, by omega⟩, (by omega), (by omega), hW, hB_G_74, hF, Fr.rf, hS, lv_sub hl [0, 1, 2, 3, 4, 5] rfl⟩
              obtain ⟨G_157, x_161, hn_165, f_162, f_163, f_164, hW, hB_G_157, hF, hq_158, hS, hl⟩ := hI
              refine lv_aload_n hx hb dX12_fewest_175 rfl (lv_at hl 5 rfl) ?_
              refine S_getR (n := 98) (C := RX12) (T := TX12) (N := 89) hx hb hg iX12 hown hK hW kd_66 rfl 58 (by decide) (hg (Cond.fieldLink RX12 115 "SlabWalkModel" "lawful" "[Z") m1372) (fun _ h9 => h9) rfl dX12_fewest_176 ?_
              refine lv_iload hx hb dX12_fewest_179 (lv_at hl 3 rfl) ?_
              refine lv_iload hx hb dX12_fewest_181 (lv_at hl 0 rfl) ?_
              refine lv_iadd hx hb dX12_fewest_183 ?_
              refine lv_topi (fun y_166 ey_166 => ?_)
              have ty_166 : y_166.toInt = x_79.toInt + x_161.toInt := xI_add rfl rfl ey_166 (by omega) (by omega)
              refine S_zald hx hb hK hW kd_98 (vin (by omega) (by omega)) dX12_fewest_184 (fun y_167 ey_167 => ?_)
              have ty_167 := hB_G_157.law ey_167
              have u_168 : y_167.toInt = (G_22.1 98 y_166.toNatClampNeg).toInt := congrArg Int32.toInt (ey_167.trans (((hq_158.ri 98 (by decide) (by decide) y_166.toNatClampNeg).trans ((hq_75.ri 98 (by decide) (by decide) y_166.toNatClampNeg).trans ((hq_70.ri 98 (by decide) (by decide) y_166.toNatClampNeg).trans ((hq_61.ri 98 (by decide) (by decide) y_166.toNatClampNeg).trans ((hq_45.ri 98 (by decide) (by decide) y_166.toNatClampNeg).trans (hq_38.ri 98 (by decide) (by decide) y_166.toNatClampNeg))))))))
              have u_169 : x_161.toInt = b9 → y_167.toInt = 1 := fun q => (lw_iff (L := G_22.1 98) (x := y_166) (y := y_167) (X := x_79.toInt + b9) (by omega) (by omega)).mp hb3
              refine lv_if_eq (tgt := 221) hx hb dX12_fewest_185 (by decide) (fun c_170 => ?_) (fun c_170 => ?_)
              · have c_170 : y_167.toInt = 0 := xI_eq rfl rfl c_170
                obtain ⟨y_171, ey_171⟩ : ∃ q, q = x_161 + 1 := ⟨_, rfl⟩
                have ty_171 : y_171.toInt = x_161.toInt + 1 := xI_add rfl rfl ey_171 (by omega) (by omega)
                refine lv_iinc (v := y_171) (lv' := [(10, .int y_171), (8, .int 0), (9, .int y_87), (7, .int x_79), (6, .int r_59), (0, .ref (a 66))]) hx hb dX12_fewest_221 hl (k := 0) rfl (by rw [ey_171]; rfl) (by decide) rfl (fun ls hl => ?_)
                refine lv_goto (tgt := 175) hx hb dX12_fewest_224 (by decide) ?_
                exact ih_159 (b9 - y_171.toInt : Int).toNat (by omega) _ _ _ ⟨G_157, y_171, (Int.toNat_of_nonneg (by omega)), ⟨by omega, by omega⟩, (by omega), (by omega), hW, hB_G_157, hF, (Fr.rf.call hq_158 (by decide) (by decide)), hS, lv_sub hl [0, 1, 2, 3, 4, 5] rfl⟩
              · have c_170 : y_167.toInt ≠ 0 := xI_ne rfl rfl c_170
                refine lv_aload_n hx hb dX12_fewest_188 rfl (lv_at hl 5 rfl) ?_
                refine lv_iload hx hb dX12_fewest_189 (lv_at hl 3 rfl) ?_
                refine lv_iload hx hb dX12_fewest_191 (lv_at hl 0 rfl) ?_
                refine lv_iadd hx hb dX12_fewest_193 ?_
                refine lv_topi (fun y_172 ey_172 => ?_)
                have ty_172 : y_172.toInt = x_79.toInt + x_161.toInt := xI_add rfl rfl ey_172 (by omega) (by omega)
                refine lv_iload hx hb dX12_fewest_194 (lv_at hl 0 rfl) ?_
                refine lv_aload_n hx hb dX12_fewest_196 rfl (lv_at hl 5 rfl) ?_
                refine S_getI (v := (G_22.1 66 62)) (C := RX12) (T := TX12) (N := 89) hx hb hg iX12 hown hK hW kd_66 rfl 62 (by decide) (hg (Cond.fieldLink RX12 478 "SlabWalkModel" "most" "I") m1376) (fun _ h9 => h9) rfl ((hq_158.i 66 62 (by decide) (by decide)).trans ((hq_75.i 66 62 (by decide) (by decide)).trans ((hq_70.i 66 62 (by decide) (by decide)).trans ((hq_61.i 66 62 (by decide) (by decide)).trans ((hq_45.i 66 62 (by decide) (by decide)).trans ((hq_38.i 66 62 (by decide) (by decide)).trans (rfl))))))) dX12_fewest_197 ?_
                refine lv_icmp_le (tgt := 207) hx hb dX12_fewest_200 (by decide) (fun c_173 => ?_) (fun c_173 => ?_)
                · have c_173 : x_161.toInt ≤ (G_22.1 66 62).toInt := xI_le rfl rfl c_173
                  refine lv_iconst (v := 0) hx hb dX12_fewest_207 (by decide) ?_
                  have qc_174 : (0 : Int32).toInt = 0 := rfl
                  refine S_calli (va_runS (As := [.int 0]) (rest := [.int y_172, .ref (a 66)]) ⟨hx, hb, hml, hown, hts⟩ (n_truth l D k A a z G_157 0 ⟨by decide, by decide⟩) (va_cwS 1 hts (gd_S hgd m1788 m1789 m131 m1790) rfl rfl rfl (by decide +kernel) ⟨Nat.le_of_ble_eq_true rfl, Nat.le_of_ble_eq_true rfl⟩) (pre_S hW hB_G_157 hK hZ hS) rfl rfl hl.1 rfl (lv_room (Nat.le_of_ble_eq_true rfl)) dX12_fewest_208 ⟨Nat.le_of_ble_eq_true rfl, Nat.le_of_ble_eq_true rfl⟩) hS (fun r_175 G_176 H locs hpo hW hS => ?_)
                  obtain ⟨hB_G_176, hq_177, f_179, hp_178, -⟩ := hpo
                  have hF := hF.call hq_177 (by decide) (by decide)
                  refine lv_iload hx hb dX12_fewest_211 (lv_at hl 1 rfl) ?_
                  have qc_180 : (0 : Int32).toInt = 0 := rfl
                  refine S_calli (va_runV (As := [.int y_172, .int r_175, .int 0]) (rest := []) ⟨hx, hb, hml, hown, hts⟩ (n_needOf l D k A a z G_176 y_172 r_175 0 ⟨by omega, by omega⟩ ⟨by omega, by omega⟩ ⟨by decide, by decide⟩) (cwV 3 hts (gd_V hgd m1859 m1861 m96 m131 m1862) rfl rfl rfl (by decide +kernel) ⟨Nat.le_of_ble_eq_true rfl, Nat.le_of_ble_eq_true rfl⟩) (pre_V hW hB_G_176 hK hZ hS kd_66 rfl) rfl rfl hl.1 rfl (lv_room (Nat.le_of_ble_eq_true rfl)) dX12_fewest_213 ⟨Nat.le_of_ble_eq_true rfl, Nat.le_of_ble_eq_true rfl⟩) hS (fun r_181 G_182 H locs hpo hW hS => ?_)
                  obtain ⟨hB_G_182, hq_183, f_185, hp_184⟩ := hpo
                  have hF := hF.call hq_183 (by decide) (by decide)
                  have hm_186 : r_181.toInt = ndv (G_37.1 99) y_172.toInt r_175.toInt 0 := hp_184.trans (ndv_eq3 (show G_176.1 99 = G_37.1 99 from (funext fun j => ((fun (j : Nat) (_ : True) => ((hq_177.ri 99 (by decide) (by decide) j).trans ((hq_158.ri 99 (by decide) (by decide) j).trans ((hq_75.ri 99 (by decide) (by decide) j).trans ((hq_70.ri 99 (by decide) (by decide) j).trans ((hq_61.ri 99 (by decide) (by decide) j).trans (hq_45.ri 99 (by decide) (by decide) j)))))))) j trivial)) rfl rfl rfl)
                  have u_187 := PRG_1 hp_39 (x := y_172.toInt) (l := r_175.toInt) (i := 0) (by omega) (by omega) (by omega) (by omega) (by omega)
                  have u_188 : x_161.toInt = b9 → r_181.toInt = y_87.toInt := fun q => (hm_186.trans ((ndv_eq3 rfl (by omega) (by omega) (by omega)).trans hb4)).trans (by omega)
                  refine lv_iload hx hb dX12_fewest_216 (lv_at hl 2 rfl) ?_
                  refine lv_icmp_eq (tgt := 227) hx hb dX12_fewest_218 (by decide) (fun c_189 => ?_) (fun c_189 => ?_)
                  · have c_189 : r_181.toInt = y_87.toInt := xI_eq rfl rfl c_189
                    refine lv_iload hx hb dX12_fewest_227 (lv_at hl 3 rfl) ?_
                    refine lv_iload hx hb dX12_fewest_229 (lv_at hl 0 rfl) ?_
                    refine lv_iadd hx hb dX12_fewest_231 ?_
                    refine lv_topi (fun y_190 ey_190 => ?_)
                    have ty_190 : y_190.toInt = x_79.toInt + x_161.toInt := xI_add rfl rfl ey_190 (by omega) (by omega)
                    refine lv_istore (lv' := [(7, .int y_190), (10, .int x_161), (8, .int 0), (9, .int y_87), (6, .int r_59), (0, .ref (a 66))]) hx hb dX12_fewest_232 hl (by decide) rfl (fun ls hl => ?_)
                    refine lv_aload_n hx hb dX12_fewest_234 rfl (lv_at hl 5 rfl) ?_
                    refine lv_iload hx hb dX12_fewest_235 (lv_at hl 0 rfl) ?_
                    have g_191 : (G_182.1 66 66).toInt = (G_74.1 66 66).toInt := by rw [show G_182.1 66 66 = (G_74.1 66 66) from ((hq_183.i 66 66 (by decide) (by decide)).trans ((hq_177.i 66 66 (by decide) (by decide)).trans ((hq_158.i 66 66 (by decide) (by decide)).trans (rfl))))]
                    have g_192 : (G_182.1 66 66).toInt = (G_74.1 66 66).toInt := by rw [show G_182.1 66 66 = (G_74.1 66 66) from ((hq_183.i 66 66 (by decide) (by decide)).trans ((hq_177.i 66 66 (by decide) (by decide)).trans ((hq_158.i 66 66 (by decide) (by decide)).trans (rfl))))]
                    refine S_callv (va_runV (As := [.int y_190]) (rest := []) ⟨hx, hb, hml, hown, hts⟩ (n_lay l D k A a z G_182 y_190 (by omega)) (cwV 1 hts (gd_V hgd m1866 m1868 m97 m131 m1869) rfl rfl rfl (by decide +kernel) ⟨Nat.le_of_ble_eq_true rfl, Nat.le_of_ble_eq_true rfl⟩) (pre_V hW hB_G_182 hK hZ hS kd_66 rfl) rfl rfl hl.1 rfl (lv_room (Nat.le_of_ble_eq_true rfl)) dX12_fewest_237 ⟨Nat.le_of_ble_eq_true rfl, Nat.le_of_ble_eq_true rfl⟩) hS (fun G_194 H locs hpo hW hS => ?_)
                    obtain ⟨hB_G_194, hq_195, hp_196⟩ := hpo
                    have hF := hF.call hq_195 (by decide) (by decide)
                    have b_197 : 0 ≤ (G_194.1 66 66).toInt ∧ (G_194.1 66 66).toInt ≤ 400 := hB_G_194.i 66 66 rfl rfl
                    have hf_198 : FWp (G_37.1 99) y_190.toInt 0 (r_59.toInt - (G_194.1 66 66).toInt + 1) := ⟨r_175.toInt, by omega, (ndv_eq3 rfl (by omega) rfl rfl).trans (hm_186.symm.trans (by omega))⟩
                    refine lv_goto (tgt := 136) hx hb dX12_fewest_240 (by decide) ?_
                    have qc_199 : (0 : Int32).toInt = 0 := rfl
                    exact ih_76 (r_59.toInt - (G_194.1 66 66).toInt : Int).toNat (by omega) _ _ _ ⟨G_194, 0, y_190, (Int.toNat_of_nonneg (by omega)), ⟨by omega, by omega⟩, ⟨by omega, by omega⟩, (by omega), (by assumption), hW, hB_G_194, hF, (((((Fr.rf.call hq_75 (by decide) (by decide)).call hq_158 (by decide) (by decide)).call hq_177 (by decide) (by decide)).call hq_183 (by decide) (by decide)).call hq_195 (by decide) (by decide)), hS, lv_sub hl [2, 0, 4, 5] rfl⟩
                  · have c_189 : r_181.toInt ≠ y_87.toInt := xI_ne rfl rfl c_189
                    obtain ⟨y_200, ey_200⟩ : ∃ q, q = x_161 + 1 := ⟨_, rfl⟩
                    have ty_200 : y_200.toInt = x_161.toInt + 1 := xI_add rfl rfl ey_200 (by omega) (by omega)
                    refine lv_iinc (v := y_200) (lv' := [(10, .int y_200), (8, .int 0), (9, .int y_87), (7, .int x_79), (6, .int r_59), (0, .ref (a 66))]) hx hb dX12_fewest_221 hl (k := 0) rfl (by rw [ey_200]; rfl) (by decide) rfl (fun ls hl => ?_)
                    refine lv_goto (tgt := 175) hx hb dX12_fewest_224 (by decide) ?_
                    exact ih_159 (b9 - y_200.toInt : Int).toNat (by omega) _ _ _ ⟨G_182, y_200, (Int.toNat_of_nonneg (by omega)), ⟨by omega, by omega⟩, (by omega), (by omega), hW, hB_G_182, hF, (((Fr.rf.call hq_158 (by decide) (by decide)).call hq_177 (by decide) (by decide)).call hq_183 (by decide) (by decide)), hS, lv_sub hl [0, 1, 2, 3, 4, 5] rfl⟩
                · have c_173 : (G_22.1 66 62).toInt < x_161.toInt := xI_nle rfl rfl c_173
                  refine lv_iconst (v := 1) hx hb dX12_fewest_203 (by decide) ?_
                  refine lv_goto (tgt := 208) hx hb dX12_fewest_204 (by decide) ?_
                  have qc_201 : (1 : Int32).toInt = 1 := rfl
                  refine S_calli (va_runS (As := [.int 1]) (rest := [.int y_172, .ref (a 66)]) ⟨hx, hb, hml, hown, hts⟩ (n_truth l D k A a z G_157 1 ⟨by decide, by decide⟩) (va_cwS 1 hts (gd_S hgd m1788 m1789 m131 m1790) rfl rfl rfl (by decide +kernel) ⟨Nat.le_of_ble_eq_true rfl, Nat.le_of_ble_eq_true rfl⟩) (pre_S hW hB_G_157 hK hZ hS) rfl rfl hl.1 rfl (lv_room (Nat.le_of_ble_eq_true rfl)) dX12_fewest_208 ⟨Nat.le_of_ble_eq_true rfl, Nat.le_of_ble_eq_true rfl⟩) hS (fun r_202 G_203 H locs hpo hW hS => ?_)
                  obtain ⟨hB_G_203, hq_204, f_206, hp_205, -⟩ := hpo
                  have hF := hF.call hq_204 (by decide) (by decide)
                  refine lv_iload hx hb dX12_fewest_211 (lv_at hl 1 rfl) ?_
                  have qc_207 : (0 : Int32).toInt = 0 := rfl
                  refine S_calli (va_runV (As := [.int y_172, .int r_202, .int 0]) (rest := []) ⟨hx, hb, hml, hown, hts⟩ (n_needOf l D k A a z G_203 y_172 r_202 0 ⟨by omega, by omega⟩ ⟨by omega, by omega⟩ ⟨by decide, by decide⟩) (cwV 3 hts (gd_V hgd m1859 m1861 m96 m131 m1862) rfl rfl rfl (by decide +kernel) ⟨Nat.le_of_ble_eq_true rfl, Nat.le_of_ble_eq_true rfl⟩) (pre_V hW hB_G_203 hK hZ hS kd_66 rfl) rfl rfl hl.1 rfl (lv_room (Nat.le_of_ble_eq_true rfl)) dX12_fewest_213 ⟨Nat.le_of_ble_eq_true rfl, Nat.le_of_ble_eq_true rfl⟩) hS (fun r_208 G_209 H locs hpo hW hS => ?_)
                  obtain ⟨hB_G_209, hq_210, f_212, hp_211⟩ := hpo
                  have hF := hF.call hq_210 (by decide) (by decide)
                  have hm_213 : r_208.toInt = ndv (G_37.1 99) y_172.toInt r_202.toInt 0 := hp_211.trans (ndv_eq3 (show G_203.1 99 = G_37.1 99 from (funext fun j => ((fun (j : Nat) (_ : True) => ((hq_204.ri 99 (by decide) (by decide) j).trans ((hq_158.ri 99 (by decide) (by decide) j).trans ((hq_75.ri 99 (by decide) (by decide) j).trans ((hq_70.ri 99 (by decide) (by decide) j).trans ((hq_61.ri 99 (by decide) (by decide) j).trans (hq_45.ri 99 (by decide) (by decide) j)))))))) j trivial)) rfl rfl rfl)
                  have u_214 := PRG_1 hp_39 (x := y_172.toInt) (l := r_202.toInt) (i := 0) (by omega) (by omega) (by omega) (by omega) (by omega)
                  have u_215 : x_161.toInt = b9 → r_208.toInt = y_87.toInt := fun q => (hm_213.trans ((ndv_eq3 rfl (by omega) (by omega) (by omega)).trans hb4)).trans (by omega)
                  refine lv_iload hx hb dX12_fewest_216 (lv_at hl 2 rfl) ?_
                  refine lv_icmp_eq (tgt := 227) hx hb dX12_fewest_218 (by decide) (fun c_216 => ?_) (fun c_216 => ?_)
                  · have c_216 : r_208.toInt = y_87.toInt := xI_eq rfl rfl c_216
                    refine lv_iload hx hb dX12_fewest_227 (lv_at hl 3 rfl) ?_
                    refine lv_iload hx hb dX12_fewest_229 (lv_at hl 0 rfl) ?_
                    refine lv_iadd hx hb dX12_fewest_231 ?_
                    refine lv_topi (fun y_217 ey_217 => ?_)
                    have ty_217 : y_217.toInt = x_79.toInt + x_161.toInt := xI_add rfl rfl ey_217 (by omega) (by omega)
                    refine lv_istore (lv' := [(7, .int y_217), (10, .int x_161), (8, .int 0), (9, .int y_87), (6, .int r_59), (0, .ref (a 66))]) hx hb dX12_fewest_232 hl (by decide) rfl (fun ls hl => ?_)
                    refine lv_aload_n hx hb dX12_fewest_234 rfl (lv_at hl 5 rfl) ?_
                    refine lv_iload hx hb dX12_fewest_235 (lv_at hl 0 rfl) ?_
                    have g_218 : (G_209.1 66 66).toInt = (G_74.1 66 66).toInt := by rw [show G_209.1 66 66 = (G_74.1 66 66) from ((hq_210.i 66 66 (by decide) (by decide)).trans ((hq_204.i 66 66 (by decide) (by decide)).trans ((hq_158.i 66 66 (by decide) (by decide)).trans (rfl))))]
                    have g_219 : (G_209.1 66 66).toInt = (G_74.1 66 66).toInt := by rw [show G_209.1 66 66 = (G_74.1 66 66) from ((hq_210.i 66 66 (by decide) (by decide)).trans ((hq_204.i 66 66 (by decide) (by decide)).trans ((hq_158.i 66 66 (by decide) (by decide)).trans (rfl))))]
                    refine S_callv (va_runV (As := [.int y_217]) (rest := []) ⟨hx, hb, hml, hown, hts⟩ (n_lay l D k A a z G_209 y_217 (by omega)) (cwV 1 hts (gd_V hgd m1866 m1868 m97 m131 m1869) rfl rfl rfl (by decide +kernel) ⟨Nat.le_of_ble_eq_true rfl, Nat.le_of_ble_eq_true rfl⟩) (pre_V hW hB_G_209 hK hZ hS kd_66 rfl) rfl rfl hl.1 rfl (lv_room (Nat.le_of_ble_eq_true rfl)) dX12_fewest_237 ⟨Nat.le_of_ble_eq_true rfl, Nat.le_of_ble_eq_true rfl⟩) hS (fun G_221 H locs hpo hW hS => ?_)
                    obtain ⟨hB_G_221, hq_222, hp_223⟩ := hpo
                    have hF := hF.call hq_222 (by decide) (by decide)
                    have b_224 : 0 ≤ (G_221.1 66 66).toInt ∧ (G_221.1 66 66).toInt ≤ 400 := hB_G_221.i 66 66 rfl rfl
                    have hf_225 : FWp (G_37.1 99) y_217.toInt 0 (r_59.toInt - (G_221.1 66 66).toInt + 1) := ⟨r_202.toInt, by omega, (ndv_eq3 rfl (by omega) rfl rfl).trans (hm_213.symm.trans (by omega))⟩
                    refine lv_goto (tgt := 136) hx hb dX12_fewest_240 (by decide) ?_
                    have qc_226 : (0 : Int32).toInt = 0 := rfl
                    exact ih_76 (r_59.toInt - (G_221.1 66 66).toInt : Int).toNat (by omega) _ _ _ ⟨G_221, 0, y_217, (Int.toNat_of_nonneg (by omega)), ⟨by omega, by omega⟩, ⟨by omega, by omega⟩, (by omega), (by assumption), hW, hB_G_221, hF, (((((Fr.rf.call hq_75 (by decide) (by decide)).call hq_158 (by decide) (by decide)).call hq_204 (by decide) (by decide)).call hq_210 (by decide) (by decide)).call hq_222 (by decide) (by decide)), hS, lv_sub hl [2, 0, 4, 5] rfl⟩
                  · have c_216 : r_208.toInt ≠ y_87.toInt := xI_ne rfl rfl c_216
                    obtain ⟨y_227, ey_227⟩ : ∃ q, q = x_161 + 1 := ⟨_, rfl⟩
                    have ty_227 : y_227.toInt = x_161.toInt + 1 := xI_add rfl rfl ey_227 (by omega) (by omega)
                    refine lv_iinc (v := y_227) (lv' := [(10, .int y_227), (8, .int 0), (9, .int y_87), (7, .int x_79), (6, .int r_59), (0, .ref (a 66))]) hx hb dX12_fewest_221 hl (k := 0) rfl (by rw [ey_227]; rfl) (by decide) rfl (fun ls hl => ?_)
                    refine lv_goto (tgt := 175) hx hb dX12_fewest_224 (by decide) ?_
                    exact ih_159 (b9 - y_227.toInt : Int).toNat (by omega) _ _ _ ⟨G_209, y_227, (Int.toNat_of_nonneg (by omega)), ⟨by omega, by omega⟩, (by omega), (by omega), hW, hB_G_209, hF, (((Fr.rf.call hq_158 (by decide) (by decide)).call hq_204 (by decide) (by decide)).call hq_210 (by decide) (by decide)), hS, lv_sub hl [0, 1, 2, 3, 4, 5] rfl⟩
        · have c_57 : x_49.toInt < 0 := xI_nle rfl rfl c_57
          refine lv_iconst (v := (-1)) hx hb dX12_fewest_109 (by decide) ?_
          exact W.iret (v := (-1)) hx hb hr (fun t ht _ => ⟨⟨(-1), G_44, rfl, ⟨hB_G_44, hF⟩, wd_t ht hW⟩, hS.F ht⟩) hS.2.2 dX12_fewest_110
      · have c_56 : x_48.toInt < (G_22.1 66 62).toInt := xI_nle rfl rfl c_56
        refine lv_aload_n hx hb dX12_fewest_53 rfl (lv_at hl 2 rfl) ?_
        refine lv_iload hx hb dX12_fewest_54 (lv_at hl 0 rfl) ?_
        refine lv_iconst (v := 0) hx hb dX12_fewest_56 (by decide) ?_
        refine lv_iload hx hb dX12_fewest_57 (lv_at hl 3 rfl) ?_
        have qc_228 : (0 : Int32).toInt = 0 := rfl
        refine S_calli (va_runV (As := [.int x_48, .int 0, .int p3]) (rest := []) ⟨hx, hb, hml, hown, hts⟩ (n_needOf l D k A a z G_44 x_48 0 p3 ⟨by omega, by omega⟩ ⟨by decide, by decide⟩ ⟨by omega, by omega⟩) (cwV 3 hts (gd_V hgd m1859 m1861 m96 m131 m1862) rfl rfl rfl (by decide +kernel) ⟨Nat.le_of_ble_eq_true rfl, Nat.le_of_ble_eq_true rfl⟩) (pre_V hW hB_G_44 hK hZ hS kd_66 rfl) rfl rfl hl.1 rfl (lv_room (Nat.le_of_ble_eq_true rfl)) dX12_fewest_59 ⟨Nat.le_of_ble_eq_true rfl, Nat.le_of_ble_eq_true rfl⟩) hS (fun r_229 G_230 H locs hpo hW hS => ?_)
        obtain ⟨hB_G_230, hq_231, f_233, hp_232⟩ := hpo
        have hF := hF.call hq_231 (by decide) (by decide)
        have hm_234 : r_229.toInt = ndv (G_37.1 99) x_48.toInt 0 p3.toInt := hp_232.trans (ndv_eq3 (show G_44.1 99 = G_37.1 99 from (funext fun j => ((fun (j : Nat) (_ : True) => (hq_45.ri 99 (by decide) (by decide) j))) j trivial)) rfl rfl rfl)
        have u_235 := PRG_1 hp_39 (x := x_48.toInt) (l := 0) (i := p3.toInt) (by omega) (by omega) (by omega) (by omega) (by omega)
        refine lv_ldcw (v := 100000) hx hb hown (hg (Cond.constant RX12 502 100000) m1858) dX12_fewest_62 ?_
        refine lv_icmp_ge (tgt := 98) hx hb dX12_fewest_65 (by decide) (fun c_236 => ?_) (fun c_236 => ?_)
        · have c_236 : 100000 ≤ r_229.toInt := xI_le rfl rfl c_236
          obtain ⟨y_237, ey_237⟩ : ∃ q, q = x_48 + 1 := ⟨_, rfl⟩
          have ty_237 : y_237.toInt = x_48.toInt + 1 := xI_add rfl rfl ey_237 (by omega) (by omega)
          refine lv_iinc (v := y_237) (lv' := [(6, .int y_237), (5, .int x_49), (0, .ref (a 66)), (4, .int p3)]) hx hb dX12_fewest_98 hl (k := 0) rfl (by rw [ey_237]; rfl) (by decide) rfl (fun ls hl => ?_)
          refine lv_goto (tgt := 44) hx hb dX12_fewest_101 (by decide) ?_
          exact ih_46 (60 - y_237.toInt : Int).toNat (by omega) _ _ _ ⟨G_230, y_237, x_49, (Int.toNat_of_nonneg (by omega)), ⟨by omega, by omega⟩, ⟨by omega, by omega⟩, (by omega), hW, hB_G_230, hF, ((Fr.rf.call hq_45 (by decide) (by decide)).call hq_231 (by decide) (by decide)), hS, lv_sub hl [0, 1, 2, 3] rfl⟩
        · have c_236 : r_229.toInt < 100000 := xI_nle rfl rfl c_236
          refine lv_iload hx hb dX12_fewest_68 (lv_at hl 1 rfl) ?_
          refine lv_if_lt (tgt := 94) hx hb dX12_fewest_70 (by decide) (fun c_238 => ?_) (fun c_238 => ?_)
          · have c_238 : x_49.toInt < 0 := xI_lt rfl rfl c_238
            refine lv_iload hx hb dX12_fewest_94 (lv_at hl 0 rfl) ?_
            refine lv_istore (lv' := [(5, .int x_48), (6, .int x_48), (0, .ref (a 66)), (4, .int p3)]) hx hb dX12_fewest_96 hl (by decide) rfl (fun ls hl => ?_)
            obtain ⟨y_239, ey_239⟩ : ∃ q, q = x_48 + 1 := ⟨_, rfl⟩
            have ty_239 : y_239.toInt = x_48.toInt + 1 := xI_add rfl rfl ey_239 (by omega) (by omega)
            refine lv_iinc (v := y_239) (lv' := [(6, .int y_239), (5, .int x_48), (0, .ref (a 66)), (4, .int p3)]) hx hb dX12_fewest_98 hl (k := 1) rfl (by rw [ey_239]; rfl) (by decide) rfl (fun ls hl => ?_)
            refine lv_goto (tgt := 44) hx hb dX12_fewest_101 (by decide) ?_
            exact ih_46 (60 - y_239.toInt : Int).toNat (by omega) _ _ _ ⟨G_230, y_239, x_48, (Int.toNat_of_nonneg (by omega)), ⟨by omega, by omega⟩, ⟨by omega, by omega⟩, (by omega), hW, hB_G_230, hF, ((Fr.rf.call hq_45 (by decide) (by decide)).call hq_231 (by decide) (by decide)), hS, lv_sub hl [0, 1, 2, 3] rfl⟩
          · have c_238 : 0 ≤ x_49.toInt := xI_nlt rfl rfl c_238
            refine lv_aload_n hx hb dX12_fewest_73 rfl (lv_at hl 2 rfl) ?_
            refine lv_iload hx hb dX12_fewest_74 (lv_at hl 0 rfl) ?_
            refine lv_iconst (v := 0) hx hb dX12_fewest_76 (by decide) ?_
            refine lv_iload hx hb dX12_fewest_77 (lv_at hl 3 rfl) ?_
            have qc_240 : (0 : Int32).toInt = 0 := rfl
            refine S_calli (va_runV (As := [.int x_48, .int 0, .int p3]) (rest := []) ⟨hx, hb, hml, hown, hts⟩ (n_needOf l D k A a z G_230 x_48 0 p3 ⟨by omega, by omega⟩ ⟨by decide, by decide⟩ ⟨by omega, by omega⟩) (cwV 3 hts (gd_V hgd m1859 m1861 m96 m131 m1862) rfl rfl rfl (by decide +kernel) ⟨Nat.le_of_ble_eq_true rfl, Nat.le_of_ble_eq_true rfl⟩) (pre_V hW hB_G_230 hK hZ hS kd_66 rfl) rfl rfl hl.1 rfl (lv_room (Nat.le_of_ble_eq_true rfl)) dX12_fewest_79 ⟨Nat.le_of_ble_eq_true rfl, Nat.le_of_ble_eq_true rfl⟩) hS (fun r_241 G_242 H locs hpo hW hS => ?_)
            obtain ⟨hB_G_242, hq_243, f_245, hp_244⟩ := hpo
            have hF := hF.call hq_243 (by decide) (by decide)
            have hm_246 : r_241.toInt = ndv (G_37.1 99) x_48.toInt 0 p3.toInt := hp_244.trans (ndv_eq3 (show G_230.1 99 = G_37.1 99 from (funext fun j => ((fun (j : Nat) (_ : True) => ((hq_231.ri 99 (by decide) (by decide) j).trans (hq_45.ri 99 (by decide) (by decide) j)))) j trivial)) rfl rfl rfl)
            have u_247 := PRG_1 hp_39 (x := x_48.toInt) (l := 0) (i := p3.toInt) (by omega) (by omega) (by omega) (by omega) (by omega)
            refine lv_aload_n hx hb dX12_fewest_82 rfl (lv_at hl 2 rfl) ?_
            refine lv_iload hx hb dX12_fewest_83 (lv_at hl 1 rfl) ?_
            refine lv_iconst (v := 0) hx hb dX12_fewest_85 (by decide) ?_
            refine lv_iload hx hb dX12_fewest_86 (lv_at hl 3 rfl) ?_
            have qc_248 : (0 : Int32).toInt = 0 := rfl
            refine S_calli (va_runV (As := [.int x_49, .int 0, .int p3]) (rest := [.int r_241]) ⟨hx, hb, hml, hown, hts⟩ (n_needOf l D k A a z G_242 x_49 0 p3 ⟨by omega, by omega⟩ ⟨by decide, by decide⟩ ⟨by omega, by omega⟩) (cwV 3 hts (gd_V hgd m1859 m1861 m96 m131 m1862) rfl rfl rfl (by decide +kernel) ⟨Nat.le_of_ble_eq_true rfl, Nat.le_of_ble_eq_true rfl⟩) (pre_V hW hB_G_242 hK hZ hS kd_66 rfl) rfl rfl hl.1 rfl (lv_room (Nat.le_of_ble_eq_true rfl)) dX12_fewest_88 ⟨Nat.le_of_ble_eq_true rfl, Nat.le_of_ble_eq_true rfl⟩) hS (fun r_249 G_250 H locs hpo hW hS => ?_)
            obtain ⟨hB_G_250, hq_251, f_253, hp_252⟩ := hpo
            have hF := hF.call hq_251 (by decide) (by decide)
            have hm_254 : r_249.toInt = ndv (G_37.1 99) x_49.toInt 0 p3.toInt := hp_252.trans (ndv_eq3 (show G_242.1 99 = G_37.1 99 from (funext fun j => ((fun (j : Nat) (_ : True) => ((hq_243.ri 99 (by decide) (by decide) j).trans ((hq_231.ri 99 (by decide) (by decide) j).trans (hq_45.ri 99 (by decide) (by decide) j))))) j trivial)) rfl rfl rfl)
            have u_255 := PRG_1 hp_39 (x := x_49.toInt) (l := 0) (i := p3.toInt) (by omega) (by omega) (by omega) (by omega) (by omega)
            refine lv_icmp_ge (tgt := 98) hx hb dX12_fewest_91 (by decide) (fun c_256 => ?_) (fun c_256 => ?_)
            · have c_256 : r_249.toInt ≤ r_241.toInt := xI_le rfl rfl c_256
              obtain ⟨y_257, ey_257⟩ : ∃ q, q = x_48 + 1 := ⟨_, rfl⟩
              have ty_257 : y_257.toInt = x_48.toInt + 1 := xI_add rfl rfl ey_257 (by omega) (by omega)
              refine lv_iinc (v := y_257) (lv' := [(6, .int y_257), (5, .int x_49), (0, .ref (a 66)), (4, .int p3)]) hx hb dX12_fewest_98 hl (k := 0) rfl (by rw [ey_257]; rfl) (by decide) rfl (fun ls hl => ?_)
              refine lv_goto (tgt := 44) hx hb dX12_fewest_101 (by decide) ?_
              exact ih_46 (60 - y_257.toInt : Int).toNat (by omega) _ _ _ ⟨G_250, y_257, x_49, (Int.toNat_of_nonneg (by omega)), ⟨by omega, by omega⟩, ⟨by omega, by omega⟩, (by omega), hW, hB_G_250, hF, ((((Fr.rf.call hq_45 (by decide) (by decide)).call hq_231 (by decide) (by decide)).call hq_243 (by decide) (by decide)).call hq_251 (by decide) (by decide)), hS, lv_sub hl [0, 1, 2, 3] rfl⟩
            · have c_256 : r_241.toInt < r_249.toInt := xI_nle rfl rfl c_256
              refine lv_iload hx hb dX12_fewest_94 (lv_at hl 0 rfl) ?_
              refine lv_istore (lv' := [(5, .int x_48), (6, .int x_48), (0, .ref (a 66)), (4, .int p3)]) hx hb dX12_fewest_96 hl (by decide) rfl (fun ls hl => ?_)
              obtain ⟨y_258, ey_258⟩ : ∃ q, q = x_48 + 1 := ⟨_, rfl⟩
              have ty_258 : y_258.toInt = x_48.toInt + 1 := xI_add rfl rfl ey_258 (by omega) (by omega)
              refine lv_iinc (v := y_258) (lv' := [(6, .int y_258), (5, .int x_48), (0, .ref (a 66)), (4, .int p3)]) hx hb dX12_fewest_98 hl (k := 1) rfl (by rw [ey_258]; rfl) (by decide) rfl (fun ls hl => ?_)
              refine lv_goto (tgt := 44) hx hb dX12_fewest_101 (by decide) ?_
              exact ih_46 (60 - y_258.toInt : Int).toNat (by omega) _ _ _ ⟨G_250, y_258, x_48, (Int.toNat_of_nonneg (by omega)), ⟨by omega, by omega⟩, ⟨by omega, by omega⟩, (by omega), hW, hB_G_250, hF, ((((Fr.rf.call hq_45 (by decide) (by decide)).call hq_231 (by decide) (by decide)).call hq_243 (by decide) (by decide)).call hq_251 (by decide) (by decide)), hS, lv_sub hl [0, 1, 2, 3] rfl⟩
    · have c_19 : r_14.toInt = 0 := xI_eq rfl rfl c_19
      refine lv_iconst (v := (-1)) hx hb dX12_fewest_25 (by decide) ?_
      exact W.iret (v := (-1)) hx hb hr (fun t ht _ => ⟨⟨(-1), G_15, rfl, ⟨hB_G_15, hF⟩, wd_t ht hW⟩, hS.F ht⟩) hS.2.2 dX12_fewest_26
