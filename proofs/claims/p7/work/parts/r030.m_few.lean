theorem m93 : Cond.selects RX12 yX12_layNeeds yX12_layNeeds ∈ gd := gd_mem 93 (by decide +kernel) (by decide +kernel)
theorem m108 : Cond.selects RX12 yX12_layWays yX12_layWays ∈ gd := gd_mem 108 (by decide +kernel) (by decide +kernel)
theorem m109 : Cond.selects RX12 yX12_hasWay yX12_hasWay ∈ gd := gd_mem 109 (by decide +kernel) (by decide +kernel)
theorem m110 : Cond.selects RX12 yX12_layWins yX12_layWins ∈ gd := gd_mem 110 (by decide +kernel) (by decide +kernel)
theorem m1846 : Cond.methodLink RX12 509 yX12_layNeeds ∈ gd := gd_mem 1846 (by decide +kernel) (by decide +kernel)
theorem m1848 : Cond.instanceMethod yX12_layNeeds ∈ gd := gd_mem 1848 (by decide +kernel) (by decide +kernel)
theorem m1849 : Cond.code yX12_layNeeds cX12_layNeeds 3 none ∈ gd := gd_mem 1849 (by decide +kernel) (by decide +kernel)
theorem m1971 : Cond.methodLink RX12 575 yX12_layWays ∈ gd := gd_mem 1971 (by decide +kernel) (by decide +kernel)
theorem m1973 : Cond.instanceMethod yX12_layWays ∈ gd := gd_mem 1973 (by decide +kernel) (by decide +kernel)
theorem m1974 : Cond.code yX12_layWays cX12_layWays 4 none ∈ gd := gd_mem 1974 (by decide +kernel) (by decide +kernel)
theorem m1975 : Cond.methodLink RX12 572 yX12_hasWay ∈ gd := gd_mem 1975 (by decide +kernel) (by decide +kernel)
theorem m1977 : Cond.instanceMethod yX12_hasWay ∈ gd := gd_mem 1977 (by decide +kernel) (by decide +kernel)
theorem m1978 : Cond.code yX12_hasWay cX12_hasWay 6 (some .boolean) ∈ gd := gd_mem 1978 (by decide +kernel) (by decide +kernel)
theorem m1979 : Cond.methodLink RX12 578 yX12_layWins ∈ gd := gd_mem 1979 (by decide +kernel) (by decide +kernel)
theorem m1981 : Cond.instanceMethod yX12_layWins ∈ gd := gd_mem 1981 (by decide +kernel) (by decide +kernel)
theorem m1982 : Cond.code yX12_layWins cX12_layWins 4 none ∈ gd := gd_mem 1982 (by decide +kernel) (by decide +kernel)
theorem dX12_fewest_0 : decode cX12_fewest 0 = .ok (.aload_n 0, 1) := by decide +kernel
theorem dX12_fewest_1 : decode cX12_fewest 1 = .ok (.iconst 0, 1) := by decide +kernel
theorem dX12_fewest_2 : decode cX12_fewest 2 = .ok (.putfield 446, 3) := by decide +kernel
theorem dX12_fewest_5 : decode cX12_fewest 5 = .ok (.aload_n 0, 1) := by decide +kernel
theorem dX12_fewest_6 : decode cX12_fewest 6 = .ok (.iload_n 1, 1) := by decide +kernel
theorem dX12_fewest_7 : decode cX12_fewest 7 = .ok (.iload_n 2, 1) := by decide +kernel
theorem dX12_fewest_8 : decode cX12_fewest 8 = .ok (.iload_n 3, 1) := by decide +kernel
theorem dX12_fewest_9 : decode cX12_fewest 9 = .ok (.invokevirtual 490, 3) := by decide +kernel
theorem dX12_fewest_12 : decode cX12_fewest 12 = .ok (.ifCond .eq 13, 3) := by decide +kernel
theorem dX12_fewest_15 : decode cX12_fewest 15 = .ok (.iload 4, 2) := by decide +kernel
theorem dX12_fewest_17 : decode cX12_fewest 17 = .ok (.iconst 0, 1) := by decide +kernel
theorem dX12_fewest_18 : decode cX12_fewest 18 = .ok (.iconst 2, 1) := by decide +kernel
theorem dX12_fewest_19 : decode cX12_fewest 19 = .ok (.invokestatic 449, 3) := by decide +kernel
theorem dX12_fewest_22 : decode cX12_fewest 22 = .ok (.ifCond .ne 5, 3) := by decide +kernel
theorem dX12_fewest_25 : decode cX12_fewest 25 = .ok (.iconst (-1), 1) := by decide +kernel
theorem dX12_fewest_26 : decode cX12_fewest 26 = .ok (.ireturn, 1) := by decide +kernel
theorem dX12_fewest_27 : decode cX12_fewest 27 = .ok (.aload_n 0, 1) := by decide +kernel
theorem dX12_fewest_28 : decode cX12_fewest 28 = .ok (.iload_n 1, 1) := by decide +kernel
theorem dX12_fewest_29 : decode cX12_fewest 29 = .ok (.iload_n 2, 1) := by decide +kernel
theorem dX12_fewest_30 : decode cX12_fewest 30 = .ok (.iload_n 3, 1) := by decide +kernel
theorem dX12_fewest_31 : decode cX12_fewest 31 = .ok (.invokevirtual 493, 3) := by decide +kernel
theorem dX12_fewest_34 : decode cX12_fewest 34 = .ok (.aload_n 0, 1) := by decide +kernel
theorem dX12_fewest_35 : decode cX12_fewest 35 = .ok (.invokevirtual 509, 3) := by decide +kernel
theorem dX12_fewest_38 : decode cX12_fewest 38 = .ok (.iconst (-1), 1) := by decide +kernel
theorem dX12_fewest_39 : decode cX12_fewest 39 = .ok (.istore 5, 2) := by decide +kernel
theorem dX12_fewest_41 : decode cX12_fewest 41 = .ok (.iconst 0, 1) := by decide +kernel
theorem dX12_fewest_42 : decode cX12_fewest 42 = .ok (.istore 6, 2) := by decide +kernel
theorem dX12_fewest_44 : decode cX12_fewest 44 = .ok (.iload 6, 2) := by decide +kernel
theorem dX12_fewest_46 : decode cX12_fewest 46 = .ok (.aload_n 0, 1) := by decide +kernel
theorem dX12_fewest_47 : decode cX12_fewest 47 = .ok (.getfield 478, 3) := by decide +kernel
theorem dX12_fewest_50 : decode cX12_fewest 50 = .ok (.if_icmp .ge 54, 3) := by decide +kernel
theorem dX12_fewest_53 : decode cX12_fewest 53 = .ok (.aload_n 0, 1) := by decide +kernel
theorem dX12_fewest_54 : decode cX12_fewest 54 = .ok (.iload 6, 2) := by decide +kernel
theorem dX12_fewest_56 : decode cX12_fewest 56 = .ok (.iconst 0, 1) := by decide +kernel
theorem dX12_fewest_57 : decode cX12_fewest 57 = .ok (.iload 4, 2) := by decide +kernel
theorem dX12_fewest_59 : decode cX12_fewest 59 = .ok (.invokevirtual 503, 3) := by decide +kernel
theorem dX12_fewest_62 : decode cX12_fewest 62 = .ok (.ldc_w 502, 3) := by decide +kernel
theorem dX12_fewest_65 : decode cX12_fewest 65 = .ok (.if_icmp .ge 33, 3) := by decide +kernel
theorem dX12_fewest_68 : decode cX12_fewest 68 = .ok (.iload 5, 2) := by decide +kernel
theorem dX12_fewest_70 : decode cX12_fewest 70 = .ok (.ifCond .lt 24, 3) := by decide +kernel
theorem dX12_fewest_73 : decode cX12_fewest 73 = .ok (.aload_n 0, 1) := by decide +kernel
theorem dX12_fewest_74 : decode cX12_fewest 74 = .ok (.iload 6, 2) := by decide +kernel
theorem dX12_fewest_76 : decode cX12_fewest 76 = .ok (.iconst 0, 1) := by decide +kernel
theorem dX12_fewest_77 : decode cX12_fewest 77 = .ok (.iload 4, 2) := by decide +kernel
theorem dX12_fewest_79 : decode cX12_fewest 79 = .ok (.invokevirtual 503, 3) := by decide +kernel
theorem dX12_fewest_82 : decode cX12_fewest 82 = .ok (.aload_n 0, 1) := by decide +kernel
theorem dX12_fewest_83 : decode cX12_fewest 83 = .ok (.iload 5, 2) := by decide +kernel
theorem dX12_fewest_85 : decode cX12_fewest 85 = .ok (.iconst 0, 1) := by decide +kernel
theorem dX12_fewest_86 : decode cX12_fewest 86 = .ok (.iload 4, 2) := by decide +kernel
theorem dX12_fewest_88 : decode cX12_fewest 88 = .ok (.invokevirtual 503, 3) := by decide +kernel
theorem dX12_fewest_91 : decode cX12_fewest 91 = .ok (.if_icmp .ge 7, 3) := by decide +kernel
theorem dX12_fewest_94 : decode cX12_fewest 94 = .ok (.iload 6, 2) := by decide +kernel
theorem dX12_fewest_96 : decode cX12_fewest 96 = .ok (.istore 5, 2) := by decide +kernel
theorem dX12_fewest_98 : decode cX12_fewest 98 = .ok (.iinc 6 1, 3) := by decide +kernel
theorem dX12_fewest_101 : decode cX12_fewest 101 = .ok (.goto (-57), 3) := by decide +kernel
theorem dX12_fewest_104 : decode cX12_fewest 104 = .ok (.iload 5, 2) := by decide +kernel
theorem dX12_fewest_106 : decode cX12_fewest 106 = .ok (.ifCond .ge 5, 3) := by decide +kernel
theorem dX12_fewest_109 : decode cX12_fewest 109 = .ok (.iconst (-1), 1) := by decide +kernel
theorem dX12_fewest_110 : decode cX12_fewest 110 = .ok (.ireturn, 1) := by decide +kernel
theorem dX12_fewest_111 : decode cX12_fewest 111 = .ok (.aload_n 0, 1) := by decide +kernel
theorem dX12_fewest_112 : decode cX12_fewest 112 = .ok (.iload 5, 2) := by decide +kernel
theorem dX12_fewest_114 : decode cX12_fewest 114 = .ok (.iconst 0, 1) := by decide +kernel
theorem dX12_fewest_115 : decode cX12_fewest 115 = .ok (.iload 4, 2) := by decide +kernel
theorem dX12_fewest_117 : decode cX12_fewest 117 = .ok (.invokevirtual 503, 3) := by decide +kernel
theorem dX12_fewest_120 : decode cX12_fewest 120 = .ok (.istore 6, 2) := by decide +kernel
theorem dX12_fewest_122 : decode cX12_fewest 122 = .ok (.iload 5, 2) := by decide +kernel
theorem dX12_fewest_124 : decode cX12_fewest 124 = .ok (.istore 7, 2) := by decide +kernel
theorem dX12_fewest_126 : decode cX12_fewest 126 = .ok (.iload 4, 2) := by decide +kernel
theorem dX12_fewest_128 : decode cX12_fewest 128 = .ok (.istore 8, 2) := by decide +kernel
theorem dX12_fewest_130 : decode cX12_fewest 130 = .ok (.aload_n 0, 1) := by decide +kernel
theorem dX12_fewest_131 : decode cX12_fewest 131 = .ok (.iload 7, 2) := by decide +kernel
theorem dX12_fewest_133 : decode cX12_fewest 133 = .ok (.invokevirtual 512, 3) := by decide +kernel
theorem dX12_fewest_136 : decode cX12_fewest 136 = .ok (.aload_n 0, 1) := by decide +kernel
theorem dX12_fewest_137 : decode cX12_fewest 137 = .ok (.getfield 446, 3) := by decide +kernel
theorem dX12_fewest_140 : decode cX12_fewest 140 = .ok (.iload 6, 2) := by decide +kernel
theorem dX12_fewest_142 : decode cX12_fewest 142 = .ok (.if_icmp .ge 101, 3) := by decide +kernel
theorem dX12_fewest_145 : decode cX12_fewest 145 = .ok (.iload 6, 2) := by decide +kernel
theorem dX12_fewest_147 : decode cX12_fewest 147 = .ok (.aload_n 0, 1) := by decide +kernel
theorem dX12_fewest_148 : decode cX12_fewest 148 = .ok (.getfield 446, 3) := by decide +kernel
theorem dX12_fewest_151 : decode cX12_fewest 151 = .ok (.isub, 1) := by decide +kernel
theorem dX12_fewest_152 : decode cX12_fewest 152 = .ok (.istore 9, 2) := by decide +kernel
theorem dX12_fewest_154 : decode cX12_fewest 154 = .ok (.iload 8, 2) := by decide +kernel
theorem dX12_fewest_156 : decode cX12_fewest 156 = .ok (.ifCond .ne 7, 3) := by decide +kernel
theorem dX12_fewest_159 : decode cX12_fewest 159 = .ok (.iconst 0, 1) := by decide +kernel
theorem dX12_fewest_160 : decode cX12_fewest 160 = .ok (.goto 7, 3) := by decide +kernel
theorem dX12_fewest_163 : decode cX12_fewest 163 = .ok (.iconst 3, 1) := by decide +kernel
theorem dX12_fewest_164 : decode cX12_fewest 164 = .ok (.iload 8, 2) := by decide +kernel
theorem dX12_fewest_166 : decode cX12_fewest 166 = .ok (.isub, 1) := by decide +kernel
theorem dX12_fewest_167 : decode cX12_fewest 167 = .ok (.istore 8, 2) := by decide +kernel
theorem dX12_fewest_169 : decode cX12_fewest 169 = .ok (.aload_n 0, 1) := by decide +kernel
theorem dX12_fewest_170 : decode cX12_fewest 170 = .ok (.getfield 475, 3) := by decide +kernel
theorem dX12_fewest_173 : decode cX12_fewest 173 = .ok (.istore 10, 2) := by decide +kernel
theorem dX12_fewest_175 : decode cX12_fewest 175 = .ok (.aload_n 0, 1) := by decide +kernel
theorem dX12_fewest_176 : decode cX12_fewest 176 = .ok (.getfield 115, 3) := by decide +kernel
theorem dX12_fewest_179 : decode cX12_fewest 179 = .ok (.iload 7, 2) := by decide +kernel
theorem dX12_fewest_181 : decode cX12_fewest 181 = .ok (.iload 10, 2) := by decide +kernel
theorem dX12_fewest_183 : decode cX12_fewest 183 = .ok (.iadd, 1) := by decide +kernel
theorem dX12_fewest_184 : decode cX12_fewest 184 = .ok (.baload, 1) := by decide +kernel
theorem dX12_fewest_185 : decode cX12_fewest 185 = .ok (.ifCond .eq 36, 3) := by decide +kernel
theorem dX12_fewest_188 : decode cX12_fewest 188 = .ok (.aload_n 0, 1) := by decide +kernel
theorem dX12_fewest_189 : decode cX12_fewest 189 = .ok (.iload 7, 2) := by decide +kernel
theorem dX12_fewest_191 : decode cX12_fewest 191 = .ok (.iload 10, 2) := by decide +kernel
theorem dX12_fewest_193 : decode cX12_fewest 193 = .ok (.iadd, 1) := by decide +kernel
theorem dX12_fewest_194 : decode cX12_fewest 194 = .ok (.iload 10, 2) := by decide +kernel
theorem dX12_fewest_196 : decode cX12_fewest 196 = .ok (.aload_n 0, 1) := by decide +kernel
theorem dX12_fewest_197 : decode cX12_fewest 197 = .ok (.getfield 478, 3) := by decide +kernel
theorem dX12_fewest_200 : decode cX12_fewest 200 = .ok (.if_icmp .le 7, 3) := by decide +kernel
theorem dX12_fewest_203 : decode cX12_fewest 203 = .ok (.iconst 1, 1) := by decide +kernel
theorem dX12_fewest_204 : decode cX12_fewest 204 = .ok (.goto 4, 3) := by decide +kernel
theorem dX12_fewest_207 : decode cX12_fewest 207 = .ok (.iconst 0, 1) := by decide +kernel
theorem dX12_fewest_208 : decode cX12_fewest 208 = .ok (.invokestatic 348, 3) := by decide +kernel
theorem dX12_fewest_211 : decode cX12_fewest 211 = .ok (.iload 8, 2) := by decide +kernel
theorem dX12_fewest_213 : decode cX12_fewest 213 = .ok (.invokevirtual 503, 3) := by decide +kernel
theorem dX12_fewest_216 : decode cX12_fewest 216 = .ok (.iload 9, 2) := by decide +kernel
theorem dX12_fewest_218 : decode cX12_fewest 218 = .ok (.if_icmp .eq 9, 3) := by decide +kernel
theorem dX12_fewest_221 : decode cX12_fewest 221 = .ok (.iinc 10 1, 3) := by decide +kernel
theorem dX12_fewest_224 : decode cX12_fewest 224 = .ok (.goto (-49), 3) := by decide +kernel
theorem dX12_fewest_227 : decode cX12_fewest 227 = .ok (.iload 7, 2) := by decide +kernel
theorem dX12_fewest_229 : decode cX12_fewest 229 = .ok (.iload 10, 2) := by decide +kernel
theorem dX12_fewest_231 : decode cX12_fewest 231 = .ok (.iadd, 1) := by decide +kernel
theorem dX12_fewest_232 : decode cX12_fewest 232 = .ok (.istore 7, 2) := by decide +kernel
theorem dX12_fewest_234 : decode cX12_fewest 234 = .ok (.aload_n 0, 1) := by decide +kernel
theorem dX12_fewest_235 : decode cX12_fewest 235 = .ok (.iload 7, 2) := by decide +kernel
theorem dX12_fewest_237 : decode cX12_fewest 237 = .ok (.invokevirtual 512, 3) := by decide +kernel
theorem dX12_fewest_240 : decode cX12_fewest 240 = .ok (.goto (-104), 3) := by decide +kernel
theorem dX12_fewest_243 : decode cX12_fewest 243 = .ok (.iload 6, 2) := by decide +kernel
theorem dX12_fewest_245 : decode cX12_fewest 245 = .ok (.ireturn, 1) := by decide +kernel
theorem dX12_hasWay_0 : decode cX12_hasWay 0 = .ok (.aload_n 0, 1) := by decide +kernel
theorem dX12_hasWay_1 : decode cX12_hasWay 1 = .ok (.iload_n 1, 1) := by decide +kernel
theorem dX12_hasWay_2 : decode cX12_hasWay 2 = .ok (.iload_n 2, 1) := by decide +kernel
theorem dX12_hasWay_3 : decode cX12_hasWay 3 = .ok (.iload_n 3, 1) := by decide +kernel
theorem dX12_hasWay_4 : decode cX12_hasWay 4 = .ok (.invokevirtual 493, 3) := by decide +kernel
theorem dX12_hasWay_7 : decode cX12_hasWay 7 = .ok (.aload_n 0, 1) := by decide +kernel
theorem dX12_hasWay_8 : decode cX12_hasWay 8 = .ok (.invokevirtual 509, 3) := by decide +kernel
theorem dX12_hasWay_11 : decode cX12_hasWay 11 = .ok (.iconst 0, 1) := by decide +kernel
theorem dX12_hasWay_12 : decode cX12_hasWay 12 = .ok (.istore 4, 2) := by decide +kernel
theorem dX12_hasWay_14 : decode cX12_hasWay 14 = .ok (.iconst 0, 1) := by decide +kernel
theorem dX12_hasWay_15 : decode cX12_hasWay 15 = .ok (.istore 5, 2) := by decide +kernel
theorem dX12_hasWay_17 : decode cX12_hasWay 17 = .ok (.iload 5, 2) := by decide +kernel
theorem dX12_hasWay_19 : decode cX12_hasWay 19 = .ok (.aload_n 0, 1) := by decide +kernel
theorem dX12_hasWay_20 : decode cX12_hasWay 20 = .ok (.getfield 478, 3) := by decide +kernel
theorem dX12_hasWay_23 : decode cX12_hasWay 23 = .ok (.if_icmp .ge 43, 3) := by decide +kernel
theorem dX12_hasWay_26 : decode cX12_hasWay 26 = .ok (.iload 5, 2) := by decide +kernel
theorem dX12_hasWay_28 : decode cX12_hasWay 28 = .ok (.sipush 400, 3) := by decide +kernel
theorem dX12_hasWay_31 : decode cX12_hasWay 31 = .ok (.if_icmp .ge 35, 3) := by decide +kernel
theorem dX12_hasWay_34 : decode cX12_hasWay 34 = .ok (.iload 4, 2) := by decide +kernel
theorem dX12_hasWay_36 : decode cX12_hasWay 36 = .ok (.ifCond .ne 17, 3) := by decide +kernel
theorem dX12_hasWay_39 : decode cX12_hasWay 39 = .ok (.aload_n 0, 1) := by decide +kernel
theorem dX12_hasWay_40 : decode cX12_hasWay 40 = .ok (.iload 5, 2) := by decide +kernel
theorem dX12_hasWay_42 : decode cX12_hasWay 42 = .ok (.iconst 0, 1) := by decide +kernel
theorem dX12_hasWay_43 : decode cX12_hasWay 43 = .ok (.iconst 0, 1) := by decide +kernel
theorem dX12_hasWay_44 : decode cX12_hasWay 44 = .ok (.invokevirtual 503, 3) := by decide +kernel
theorem dX12_hasWay_47 : decode cX12_hasWay 47 = .ok (.ldc_w 502, 3) := by decide +kernel
theorem dX12_hasWay_50 : decode cX12_hasWay 50 = .ok (.if_icmp .ge 7, 3) := by decide +kernel
theorem dX12_hasWay_53 : decode cX12_hasWay 53 = .ok (.iconst 1, 1) := by decide +kernel
theorem dX12_hasWay_54 : decode cX12_hasWay 54 = .ok (.goto 4, 3) := by decide +kernel
theorem dX12_hasWay_57 : decode cX12_hasWay 57 = .ok (.iconst 0, 1) := by decide +kernel
theorem dX12_hasWay_58 : decode cX12_hasWay 58 = .ok (.istore 4, 2) := by decide +kernel
theorem dX12_hasWay_60 : decode cX12_hasWay 60 = .ok (.iinc 5 1, 3) := by decide +kernel
theorem dX12_hasWay_63 : decode cX12_hasWay 63 = .ok (.goto (-46), 3) := by decide +kernel
theorem dX12_hasWay_66 : decode cX12_hasWay 66 = .ok (.iload 4, 2) := by decide +kernel
theorem dX12_hasWay_68 : decode cX12_hasWay 68 = .ok (.ireturn, 1) := by decide +kernel
theorem dX12_layWays_0 : decode cX12_layWays 0 = .ok (.iconst 0, 1) := by decide +kernel
theorem dX12_layWays_1 : decode cX12_layWays 1 = .ok (.istore_n 3, 1) := by decide +kernel
theorem dX12_layWays_2 : decode cX12_layWays 2 = .ok (.iload_n 3, 1) := by decide +kernel
theorem dX12_layWays_3 : decode cX12_layWays 3 = .ok (.iconst 1, 1) := by decide +kernel
theorem dX12_layWays_4 : decode cX12_layWays 4 = .ok (.aload_n 0, 1) := by decide +kernel
theorem dX12_layWays_5 : decode cX12_layWays 5 = .ok (.getfield 431, 3) := by decide +kernel
theorem dX12_layWays_8 : decode cX12_layWays 8 = .ok (.ishl, 1) := by decide +kernel
theorem dX12_layWays_9 : decode cX12_layWays 9 = .ok (.if_icmp .ge 22, 3) := by decide +kernel
theorem dX12_layWays_12 : decode cX12_layWays 12 = .ok (.aload_n 0, 1) := by decide +kernel
theorem dX12_layWays_13 : decode cX12_layWays 13 = .ok (.getfield 142, 3) := by decide +kernel
theorem dX12_layWays_16 : decode cX12_layWays 16 = .ok (.iload_n 3, 1) := by decide +kernel
theorem dX12_layWays_17 : decode cX12_layWays 17 = .ok (.aload_n 0, 1) := by decide +kernel
theorem dX12_layWays_18 : decode cX12_layWays 18 = .ok (.iload_n 1, 1) := by decide +kernel
theorem dX12_layWays_19 : decode cX12_layWays 19 = .ok (.iload_n 2, 1) := by decide +kernel
theorem dX12_layWays_20 : decode cX12_layWays 20 = .ok (.iload_n 3, 1) := by decide +kernel
theorem dX12_layWays_21 : decode cX12_layWays 21 = .ok (.invokevirtual 572, 3) := by decide +kernel
theorem dX12_layWays_24 : decode cX12_layWays 24 = .ok (.bastore, 1) := by decide +kernel
theorem dX12_layWays_25 : decode cX12_layWays 25 = .ok (.iinc 3 1, 3) := by decide +kernel
theorem dX12_layWays_28 : decode cX12_layWays 28 = .ok (.goto (-26), 3) := by decide +kernel
theorem dX12_layWays_31 : decode cX12_layWays 31 = .ok (.return_, 1) := by decide +kernel
theorem dX12_leave_0 : decode cX12_leave 0 = .ok (.aload_n 0, 1) := by decide +kernel
theorem dX12_leave_1 : decode cX12_leave 1 = .ok (.iload_n 1, 1) := by decide +kernel
theorem dX12_leave_2 : decode cX12_leave 2 = .ok (.invokevirtual 487, 3) := by decide +kernel
theorem dX12_leave_5 : decode cX12_leave 5 = .ok (.ifCond .eq 11, 3) := by decide +kernel
theorem dX12_leave_8 : decode cX12_leave 8 = .ok (.aload_n 0, 1) := by decide +kernel
theorem dX12_leave_9 : decode cX12_leave 9 = .ok (.iload_n 2, 1) := by decide +kernel
theorem dX12_leave_10 : decode cX12_leave 10 = .ok (.invokevirtual 453, 3) := by decide +kernel
theorem dX12_leave_13 : decode cX12_leave 13 = .ok (.ifCond .ne 5, 3) := by decide +kernel
theorem dX12_leave_16 : decode cX12_leave 16 = .ok (.iconst (-1), 1) := by decide +kernel
theorem dX12_leave_17 : decode cX12_leave 17 = .ok (.ireturn, 1) := by decide +kernel
theorem dX12_leave_18 : decode cX12_leave 18 = .ok (.aload_n 0, 1) := by decide +kernel
theorem dX12_leave_19 : decode cX12_leave 19 = .ok (.iload_n 1, 1) := by decide +kernel
theorem dX12_leave_20 : decode cX12_leave 20 = .ok (.iload_n 2, 1) := by decide +kernel
theorem dX12_leave_21 : decode cX12_leave 21 = .ok (.invokevirtual 575, 3) := by decide +kernel
theorem dX12_leave_24 : decode cX12_leave 24 = .ok (.iconst 0, 1) := by decide +kernel
theorem dX12_leave_25 : decode cX12_leave 25 = .ok (.istore_n 3, 1) := by decide +kernel
theorem dX12_leave_26 : decode cX12_leave 26 = .ok (.iconst 0, 1) := by decide +kernel
theorem dX12_leave_27 : decode cX12_leave 27 = .ok (.istore 4, 2) := by decide +kernel
theorem dX12_leave_29 : decode cX12_leave 29 = .ok (.iload 4, 2) := by decide +kernel
theorem dX12_leave_31 : decode cX12_leave 31 = .ok (.iconst 1, 1) := by decide +kernel
theorem dX12_leave_32 : decode cX12_leave 32 = .ok (.aload_n 0, 1) := by decide +kernel
theorem dX12_leave_33 : decode cX12_leave 33 = .ok (.getfield 431, 3) := by decide +kernel
theorem dX12_leave_36 : decode cX12_leave 36 = .ok (.ishl, 1) := by decide +kernel
theorem dX12_leave_37 : decode cX12_leave 37 = .ok (.if_icmp .ge 22, 3) := by decide +kernel
theorem dX12_leave_40 : decode cX12_leave 40 = .ok (.iload_n 3, 1) := by decide +kernel
theorem dX12_leave_41 : decode cX12_leave 41 = .ok (.aload_n 0, 1) := by decide +kernel
theorem dX12_leave_42 : decode cX12_leave 42 = .ok (.getfield 142, 3) := by decide +kernel
theorem dX12_leave_45 : decode cX12_leave 45 = .ok (.iload 4, 2) := by decide +kernel
theorem dX12_leave_47 : decode cX12_leave 47 = .ok (.baload, 1) := by decide +kernel
theorem dX12_leave_48 : decode cX12_leave 48 = .ok (.invokestatic 348, 3) := by decide +kernel
theorem dX12_leave_51 : decode cX12_leave 51 = .ok (.iadd, 1) := by decide +kernel
theorem dX12_leave_52 : decode cX12_leave 52 = .ok (.istore_n 3, 1) := by decide +kernel
theorem dX12_leave_53 : decode cX12_leave 53 = .ok (.iinc 4 1, 3) := by decide +kernel
theorem dX12_leave_56 : decode cX12_leave 56 = .ok (.goto (-27), 3) := by decide +kernel
theorem dX12_leave_59 : decode cX12_leave 59 = .ok (.iload_n 3, 1) := by decide +kernel
theorem dX12_leave_60 : decode cX12_leave 60 = .ok (.ireturn, 1) := by decide +kernel
theorem dX12_wager_0 : decode cX12_wager 0 = .ok (.aload_n 0, 1) := by decide +kernel
theorem dX12_wager_1 : decode cX12_wager 1 = .ok (.iload_n 1, 1) := by decide +kernel
theorem dX12_wager_2 : decode cX12_wager 2 = .ok (.iload_n 2, 1) := by decide +kernel
theorem dX12_wager_3 : decode cX12_wager 3 = .ok (.iload_n 3, 1) := by decide +kernel
theorem dX12_wager_4 : decode cX12_wager 4 = .ok (.invokevirtual 490, 3) := by decide +kernel
theorem dX12_wager_7 : decode cX12_wager 7 = .ok (.ifCond .eq 13, 3) := by decide +kernel
theorem dX12_wager_10 : decode cX12_wager 10 = .ok (.iload 4, 2) := by decide +kernel
theorem dX12_wager_12 : decode cX12_wager 12 = .ok (.iconst 0, 1) := by decide +kernel
theorem dX12_wager_13 : decode cX12_wager 13 = .ok (.iconst 1, 1) := by decide +kernel
theorem dX12_wager_14 : decode cX12_wager 14 = .ok (.invokestatic 449, 3) := by decide +kernel
theorem dX12_wager_17 : decode cX12_wager 17 = .ok (.ifCond .ne 5, 3) := by decide +kernel
theorem dX12_wager_20 : decode cX12_wager 20 = .ok (.iconst (-1), 1) := by decide +kernel
theorem dX12_wager_21 : decode cX12_wager 21 = .ok (.ireturn, 1) := by decide +kernel
theorem dX12_wager_22 : decode cX12_wager 22 = .ok (.aload_n 0, 1) := by decide +kernel
theorem dX12_wager_23 : decode cX12_wager 23 = .ok (.iload_n 1, 1) := by decide +kernel
theorem dX12_wager_24 : decode cX12_wager 24 = .ok (.iload_n 2, 1) := by decide +kernel
theorem dX12_wager_25 : decode cX12_wager 25 = .ok (.invokevirtual 575, 3) := by decide +kernel
theorem dX12_wager_28 : decode cX12_wager 28 = .ok (.iconst 1, 1) := by decide +kernel
theorem dX12_wager_29 : decode cX12_wager 29 = .ok (.aload_n 0, 1) := by decide +kernel
theorem dX12_wager_30 : decode cX12_wager 30 = .ok (.getfield 431, 3) := by decide +kernel
theorem dX12_wager_33 : decode cX12_wager 33 = .ok (.ishl, 1) := by decide +kernel
theorem dX12_wager_34 : decode cX12_wager 34 = .ok (.iconst 1, 1) := by decide +kernel
theorem dX12_wager_35 : decode cX12_wager 35 = .ok (.isub, 1) := by decide +kernel
theorem dX12_wager_36 : decode cX12_wager 36 = .ok (.istore 5, 2) := by decide +kernel
theorem dX12_wager_38 : decode cX12_wager 38 = .ok (.iload 5, 2) := by decide +kernel
theorem dX12_wager_40 : decode cX12_wager 40 = .ok (.ifCond .lt 15, 3) := by decide +kernel
theorem dX12_wager_43 : decode cX12_wager 43 = .ok (.aload_n 0, 1) := by decide +kernel
theorem dX12_wager_44 : decode cX12_wager 44 = .ok (.iload 5, 2) := by decide +kernel
theorem dX12_wager_46 : decode cX12_wager 46 = .ok (.invokevirtual 578, 3) := by decide +kernel
theorem dX12_wager_49 : decode cX12_wager 49 = .ok (.iinc 5 (-1), 3) := by decide +kernel
theorem dX12_wager_52 : decode cX12_wager 52 = .ok (.goto (-14), 3) := by decide +kernel
theorem dX12_wager_55 : decode cX12_wager 55 = .ok (.iload 4, 2) := by decide +kernel
theorem dX12_wager_57 : decode cX12_wager 57 = .ok (.ifCond .ne 15, 3) := by decide +kernel
theorem dX12_wager_60 : decode cX12_wager 60 = .ok (.aload_n 0, 1) := by decide +kernel
theorem dX12_wager_61 : decode cX12_wager 61 = .ok (.getfield 145, 3) := by decide +kernel
theorem dX12_wager_64 : decode cX12_wager 64 = .ok (.iload_n 3, 1) := by decide +kernel
theorem dX12_wager_65 : decode cX12_wager 65 = .ok (.baload, 1) := by decide +kernel
theorem dX12_wager_66 : decode cX12_wager 66 = .ok (.invokestatic 348, 3) := by decide +kernel
theorem dX12_wager_69 : decode cX12_wager 69 = .ok (.goto 9, 3) := by decide +kernel
theorem dX12_wager_72 : decode cX12_wager 72 = .ok (.aload_n 0, 1) := by decide +kernel
theorem dX12_wager_73 : decode cX12_wager 73 = .ok (.getfield 148, 3) := by decide +kernel
theorem dX12_wager_76 : decode cX12_wager 76 = .ok (.iload_n 3, 1) := by decide +kernel
theorem dX12_wager_77 : decode cX12_wager 77 = .ok (.iaload, 1) := by decide +kernel
theorem dX12_wager_78 : decode cX12_wager 78 = .ok (.ireturn, 1) := by decide +kernel
set_option maxHeartbeats 4000000 in
set_option maxRecDepth 100000 in
theorem n_hasWay (l : Launch) (D : va_G) (k : KT) (A : Nat → Prop) (a : Nat → Nat) (z : SK) (G : GS) (p0 : Int32) (p1 : Int32) (p2 : Int32) (ha_p0 : 0 ≤ p0.toInt ∧ p0.toInt ≤ 3) (ha_p1 : 0 ≤ p1.toInt ∧ p1.toInt ≤ 2) (hP9 : gP G = 1) (hW9 : gW G = 1) (hpw : p0.toInt < (G.1 66 53).toInt) : Met l yX12_hasWay (WS yX12_hasWay cX12_hasWay 6 (some .boolean)) ({ frames := 5, cells := 0, slots := 0, locals := 117 }) (va_Pc [.ref (a 66), .int p0, .int p1, .int p2] (cW D k A a z G)) (va_Qi (fun (r : Int32) (G1 : GS) => Q_hasWay p0 p1 p2 G r G1) (fun (G1 : GS) t => Wd D k A a G1 t.heap) A) 0 0 A := by
  refine Met.ofW (cc := cX12_hasWay) (maxL := 6) (ret := (some .boolean)) (by decide) rfl ?_
  intro p e s m args below meth c s₁ B hml hv
  obtain ⟨rfl, hW, hB_G, hK, hZ⟩ := hv
  have hx := B.exec
  have hb := B.bytes
  have hr := B.returns
  have hts := atoms_spec (ws := WS yX12_hasWay cX12_hasWay 6 (some .boolean)) B.pre
  have hgd : ∀ w ∈ gd, w ∈ WS yX12_hasWay cX12_hasWay 6 (some .boolean) := fun w h => List.mem_cons_of_mem _ h
  have hg : ∀ w ∈ gd, w.before _ s = true := fun w h => hts w (hgd w h)
  have hown : s.vm.findClass RX12 = some m.cls := findClass_of_methodNamed B.named
  have hS : va_S A s.heap s.heap [] := va_S.rf
  have hF : Fr [76, 97, 98, 99] [(66, 59), (66, 60), (66, 61), (66, 62), (66, 63)] G G := Fr.rf
  have hl := lv_entry ([.ref (a 66), .int p0, .int p1, .int p2]) (n := 6) (Nat.le_of_ble_eq_true rfl)
  rw [lg_entry_eq]
  generalize (lg_sl ([.ref (a 66), .int p0, .int p1, .int p2]) ++ List.replicate (6 - (lg_sl ([.ref (a 66), .int p0, .int p1, .int p2])).length) Slot.unset).toArray = ls at hl ⊢
  have hl : lv_has ls 6 [(0, .ref (a 66)), (1, .int p0), (2, .int p1), (3, .int p2)] := hl
  refine lv_aload_n hx hb dX12_hasWay_0 rfl (lv_at hl 0 rfl) ?_
  refine lv_iload_n hx hb dX12_hasWay_1 rfl (lv_at hl 1 rfl) ?_
  refine lv_iload_n hx hb dX12_hasWay_2 rfl (lv_at hl 2 rfl) ?_
  refine lv_iload_n hx hb dX12_hasWay_3 rfl (lv_at hl 3 rfl) ?_
  refine S_callv (va_runV (As := [.int p0, .int p1, .int p2]) (rest := []) ⟨hx, hb, hml, hown, hts⟩ (n_layStreet l D k A a z G p0 p1 p2 ⟨by omega, by omega⟩ ⟨by omega, by omega⟩ (by omega)) (cwV 3 hts (gd_V hgd m1834 m1836 m91 m131 m1837) rfl rfl rfl (by decide +kernel) ⟨Nat.le_of_ble_eq_true rfl, Nat.le_of_ble_eq_true rfl⟩) (pre_V hW hB_G hK hZ hS kd_66 rfl) rfl rfl hl.1 rfl (lv_room (Nat.le_of_ble_eq_true rfl)) dX12_hasWay_4 ⟨Nat.le_of_ble_eq_true rfl, Nat.le_of_ble_eq_true rfl⟩) hS (fun G_2 H locs hpo hW hS => ?_)
  have hX_5 : Q_layStreet p0 p1 p2 G G_2 := hpo
  obtain ⟨hB_G_2, hq_3, hp_4, -⟩ := hpo
  have hF := hF.call hq_3 (by decide) (by decide)
  have b_6 : 0 ≤ (G.1 66 53).toInt ∧ (G.1 66 53).toInt ≤ 4 := hB_G.i 66 53 rfl rfl
  have u_7 := gW_at hW9 p0 (by omega) (by omega)
  have b_8 : 0 ≤ (G_2.1 66 60).toInt ∧ (G_2.1 66 60).toInt ≤ 12 := hB_G_2.i 66 60 rfl rfl
  have b_9 : 0 ≤ (G_2.1 66 61).toInt ∧ (G_2.1 66 61).toInt ≤ 60 := hB_G_2.i 66 61 rfl rfl
  have b_10 : 0 ≤ (G_2.1 66 62).toInt ∧ (G_2.1 66 62).toInt ≤ 60 := hB_G_2.i 66 62 rfl rfl
  have b_11 : 0 ≤ (G_2.1 66 63).toInt ∧ (G_2.1 66 63).toInt ≤ 99 := hB_G_2.i 66 63 rfl rfl
  refine lv_aload_n hx hb dX12_hasWay_7 rfl (lv_at hl 0 rfl) ?_
  have b_12 : 0 ≤ (G_2.1 98 400).toInt ∧ (G_2.1 98 400).toInt ≤ 1 := hB_G_2.i 98 400 rfl rfl
  refine S_callv (va_runV (As := []) (rest := []) ⟨hx, hb, hml, hown, hts⟩ (n_layNeeds l D k A a z G_2  (by omega) (by omega) (by omega)) (cwV 0 hts (gd_V hgd m1846 m1848 m93 m131 m1849) rfl rfl rfl (by decide +kernel) ⟨Nat.le_of_ble_eq_true rfl, Nat.le_of_ble_eq_true rfl⟩) (pre_V hW hB_G_2 hK hZ hS kd_66 rfl) rfl rfl hl.1 rfl (lv_room (Nat.le_of_ble_eq_true rfl)) dX12_hasWay_8 ⟨Nat.le_of_ble_eq_true rfl, Nat.le_of_ble_eq_true rfl⟩) hS (fun G_14 H locs hpo hW hS => ?_)
  have hX_17 : Q_layNeeds G_2 G_14 := hpo
  obtain ⟨hB_G_14, hq_15, hp_16, -⟩ := hpo
  have hF := hF.call hq_15 (by decide) (by decide)
  refine lv_iconst (v := 0) hx hb dX12_hasWay_11 (by decide) ?_
  refine lv_istore (lv' := [(4, .int 0), (0, .ref (a 66)), (1, .int p0), (2, .int p1), (3, .int p2)]) hx hb dX12_hasWay_12 hl (by decide) rfl (fun ls hl => ?_)
  refine lv_iconst (v := 0) hx hb dX12_hasWay_14 (by decide) ?_
  refine lv_istore (lv' := [(5, .int 0), (4, .int 0), (0, .ref (a 66)), (1, .int p0), (2, .int p1), (3, .int p2)]) hx hb dX12_hasWay_15 hl (by decide) rfl (fun ls hl => ?_)
  have qc_25 : (0 : Int32).toInt = 0 := rfl
  refine loop_N (Inv := fun n H locs ls => ∃ (G_18 : GS) (x_22 : Int32) (x_23 : Int32), (n : Int) = 60 - x_22.toInt ∧ (0 ≤ x_22.toInt ∧ x_22.toInt ≤ 60) ∧ (0 ≤ x_23.toInt ∧ x_23.toInt ≤ 1) ∧ Rc (St_n_hasWay_1 G_2) (0, 0, G_14) (x_22, x_23, G_18) ∧ Wd D k A a G_18 H ∧ Bd G_18 ∧ Fr [76, 97, 98, 99] [(66, 59), (66, 60), (66, 61), (66, 62), (66, 63)] G G_18 ∧ Fr [] [] G_14 G_18 ∧ va_S A s.heap H locs ∧ lv_has ls 6 [(5, .int x_22), (4, .int x_23), (0, .ref (a 66))]) (fun n_21 H locs ls ih_20 hI => ?_) (60 - 0 : Int).toNat ⟨G_14, 0, 0, (Int.toNat_of_nonneg (by omega)), ⟨by omega, by omega⟩, ⟨by omega, by omega⟩, Rc.rf, hW, hB_G_14, hF, Fr.rf, hS, lv_sub hl [0, 1, 2] rfl⟩
  obtain ⟨G_18, x_22, x_23, hn_28, f_26, f_27, hX_24, hW, hB_G_18, hF, hq_19, hS, hl⟩ := hI
  refine lv_iload hx hb dX12_hasWay_17 (lv_at hl 0 rfl) ?_
  refine lv_aload_n hx hb dX12_hasWay_19 rfl (lv_at hl 2 rfl) ?_
  refine S_getI (v := (G_2.1 66 62)) (C := RX12) (T := TX12) (N := 89) hx hb hg iX12 hown hK hW kd_66 rfl 62 (by decide) (hg (Cond.fieldLink RX12 478 "SlabWalkModel" "most" "I") m1376) (fun _ h9 => h9) rfl ((hq_19.i 66 62 (by decide) (by decide)).trans ((hq_15.i 66 62 (by decide) (by decide)).trans (rfl))) dX12_hasWay_20 ?_
  refine lv_icmp_ge (tgt := 66) hx hb dX12_hasWay_23 (by decide) (fun c_29 => ?_) (fun c_29 => ?_)
  · have c_29 : (G_2.1 66 62).toInt ≤ x_22.toInt := xI_le rfl rfl c_29
    refine lv_iload hx hb dX12_hasWay_66 (lv_at hl 1 rfl) ?_
    exact W.zret (v := x_23) hx hb hr (nar_z (by omega) (by omega)) (fun t ht _ => ⟨⟨x_23, G_18, rfl, (Q_hasWay_mk ⟨hB_G_18, hF, ⟨by omega, by omega⟩, ⟨G_2, hX_5, ⟨G_14, hX_17, ⟨x_22, x_23, G_18, hX_24, f_26, f_27, hB_G_18, hq_19, ⟨c_29, ⟨rfl, rfl⟩⟩⟩⟩⟩⟩), wd_t ht hW⟩, hS.F ht⟩) hS.2.2 dX12_hasWay_68
  · have c_29 : x_22.toInt < (G_2.1 66 62).toInt := xI_nle rfl rfl c_29
    refine lv_iload hx hb dX12_hasWay_26 (lv_at hl 0 rfl) ?_
    refine lv_sipush (v := 400) hx hb dX12_hasWay_28 (by decide) ?_
    refine lv_icmp_ge (tgt := 66) hx hb dX12_hasWay_31 (by decide) (fun c_30 => ?_) (fun c_30 => ?_)
    · have c_30 : 400 ≤ x_22.toInt := xI_le rfl rfl c_30
      exfalso; omega
    · have c_30 : x_22.toInt < 400 := xI_nle rfl rfl c_30
      refine lv_iload hx hb dX12_hasWay_34 (lv_at hl 1 rfl) ?_
      refine lv_if_ne (tgt := 53) hx hb dX12_hasWay_36 (by decide) (fun c_31 => ?_) (fun c_31 => ?_)
      · have c_31 : x_23.toInt ≠ 0 := xI_ne rfl rfl c_31
        refine lv_iconst (v := 1) hx hb dX12_hasWay_53 (by decide) ?_
        refine lv_goto (tgt := 58) hx hb dX12_hasWay_54 (by decide) ?_
        refine lv_istore (lv' := [(4, .int 1), (5, .int x_22), (0, .ref (a 66))]) hx hb dX12_hasWay_58 hl (by decide) rfl (fun ls hl => ?_)
        obtain ⟨y_32, ey_32⟩ : ∃ q, q = x_22 + 1 := ⟨_, rfl⟩
        have ty_32 : y_32.toInt = x_22.toInt + 1 := xI_add rfl rfl ey_32 (by omega) (by omega)
        refine lv_iinc (v := y_32) (lv' := [(5, .int y_32), (4, .int 1), (0, .ref (a 66))]) hx hb dX12_hasWay_60 hl (k := 1) rfl (by rw [ey_32]; rfl) (by decide) rfl (fun ls hl => ?_)
        refine lv_goto (tgt := 17) hx hb dX12_hasWay_63 (by decide) ?_
        have qc_33 : (1 : Int32).toInt = 1 := rfl
        exact ih_20 (60 - y_32.toInt : Int).toNat (by omega) _ _ _ ⟨G_18, y_32, 1, (Int.toNat_of_nonneg (by omega)), ⟨by omega, by omega⟩, ⟨by omega, by omega⟩, (hX_24.st (St_n_hasWay_1_mk ⟨x_22, x_23, G_18, y_32, 1, G_18, rfl, rfl, f_26, f_27, hB_G_18, ⟨c_29, (Or.inr ⟨c_31, ⟨y_32, ty_32, ⟨rfl, rfl, rfl⟩⟩⟩)⟩⟩)), hW, hB_G_18, hF, (Fr.rf.call hq_19 (by decide) (by decide)), hS, lv_sub hl [0, 1, 2] rfl⟩
      · have c_31 : x_23.toInt = 0 := xI_eq rfl rfl c_31
        refine lv_aload_n hx hb dX12_hasWay_39 rfl (lv_at hl 2 rfl) ?_
        refine lv_iload hx hb dX12_hasWay_40 (lv_at hl 0 rfl) ?_
        refine lv_iconst (v := 0) hx hb dX12_hasWay_42 (by decide) ?_
        refine lv_iconst (v := 0) hx hb dX12_hasWay_43 (by decide) ?_
        have qc_34 : (0 : Int32).toInt = 0 := rfl
        have qc_35 : (0 : Int32).toInt = 0 := rfl
        refine S_calli (va_runV (As := [.int x_22, .int 0, .int 0]) (rest := []) ⟨hx, hb, hml, hown, hts⟩ (n_needOf l D k A a z G_18 x_22 0 0 ⟨by omega, by omega⟩ ⟨by decide, by decide⟩ ⟨by decide, by decide⟩) (cwV 3 hts (gd_V hgd m1859 m1861 m96 m131 m1862) rfl rfl rfl (by decide +kernel) ⟨Nat.le_of_ble_eq_true rfl, Nat.le_of_ble_eq_true rfl⟩) (pre_V hW hB_G_18 hK hZ hS kd_66 rfl) rfl rfl hl.1 rfl (lv_room (Nat.le_of_ble_eq_true rfl)) dX12_hasWay_44 ⟨Nat.le_of_ble_eq_true rfl, Nat.le_of_ble_eq_true rfl⟩) hS (fun r_36 G_37 H locs hpo hW hS => ?_)
        have hX_40 : Q_needOf x_22 0 0 G_18 r_36 G_37 := hpo
        obtain ⟨hB_G_37, hq_38, f_41, hp_39, -⟩ := hpo
        have hF := hF.call hq_38 (by decide) (by decide)
        refine lv_ldcw (v := 100000) hx hb hown (hg (Cond.constant RX12 502 100000) m1858) dX12_hasWay_47 ?_
        refine lv_icmp_ge (tgt := 57) hx hb dX12_hasWay_50 (by decide) (fun c_42 => ?_) (fun c_42 => ?_)
        · have c_42 : 100000 ≤ r_36.toInt := xI_le rfl rfl c_42
          refine lv_iconst (v := 0) hx hb dX12_hasWay_57 (by decide) ?_
          refine lv_istore (lv' := [(4, .int 0), (5, .int x_22), (0, .ref (a 66))]) hx hb dX12_hasWay_58 hl (by decide) rfl (fun ls hl => ?_)
          obtain ⟨y_43, ey_43⟩ : ∃ q, q = x_22 + 1 := ⟨_, rfl⟩
          have ty_43 : y_43.toInt = x_22.toInt + 1 := xI_add rfl rfl ey_43 (by omega) (by omega)
          refine lv_iinc (v := y_43) (lv' := [(5, .int y_43), (4, .int 0), (0, .ref (a 66))]) hx hb dX12_hasWay_60 hl (k := 1) rfl (by rw [ey_43]; rfl) (by decide) rfl (fun ls hl => ?_)
          refine lv_goto (tgt := 17) hx hb dX12_hasWay_63 (by decide) ?_
          have qc_44 : (0 : Int32).toInt = 0 := rfl
          exact ih_20 (60 - y_43.toInt : Int).toNat (by omega) _ _ _ ⟨G_37, y_43, 0, (Int.toNat_of_nonneg (by omega)), ⟨by omega, by omega⟩, ⟨by omega, by omega⟩, (hX_24.st (St_n_hasWay_1_mk ⟨x_22, x_23, G_18, y_43, 0, G_37, rfl, rfl, f_26, f_27, hB_G_18, ⟨c_29, (Or.inl ⟨c_31, ⟨r_36, G_37, hX_40, (Or.inl ⟨c_42, ⟨y_43, ty_43, ⟨rfl, rfl, rfl⟩⟩⟩)⟩⟩)⟩⟩)), hW, hB_G_37, hF, ((Fr.rf.call hq_19 (by decide) (by decide)).call hq_38 (by decide) (by decide)), hS, lv_sub hl [0, 1, 2] rfl⟩
        · have c_42 : r_36.toInt < 100000 := xI_nle rfl rfl c_42
          refine lv_iconst (v := 1) hx hb dX12_hasWay_53 (by decide) ?_
          refine lv_goto (tgt := 58) hx hb dX12_hasWay_54 (by decide) ?_
          refine lv_istore (lv' := [(4, .int 1), (5, .int x_22), (0, .ref (a 66))]) hx hb dX12_hasWay_58 hl (by decide) rfl (fun ls hl => ?_)
          obtain ⟨y_45, ey_45⟩ : ∃ q, q = x_22 + 1 := ⟨_, rfl⟩
          have ty_45 : y_45.toInt = x_22.toInt + 1 := xI_add rfl rfl ey_45 (by omega) (by omega)
          refine lv_iinc (v := y_45) (lv' := [(5, .int y_45), (4, .int 1), (0, .ref (a 66))]) hx hb dX12_hasWay_60 hl (k := 1) rfl (by rw [ey_45]; rfl) (by decide) rfl (fun ls hl => ?_)
          refine lv_goto (tgt := 17) hx hb dX12_hasWay_63 (by decide) ?_
          have qc_46 : (1 : Int32).toInt = 1 := rfl
          exact ih_20 (60 - y_45.toInt : Int).toNat (by omega) _ _ _ ⟨G_37, y_45, 1, (Int.toNat_of_nonneg (by omega)), ⟨by omega, by omega⟩, ⟨by omega, by omega⟩, (hX_24.st (St_n_hasWay_1_mk ⟨x_22, x_23, G_18, y_45, 1, G_37, rfl, rfl, f_26, f_27, hB_G_18, ⟨c_29, (Or.inl ⟨c_31, ⟨r_36, G_37, hX_40, (Or.inr ⟨c_42, ⟨y_45, ty_45, ⟨rfl, rfl, rfl⟩⟩⟩)⟩⟩)⟩⟩)), hW, hB_G_37, hF, ((Fr.rf.call hq_19 (by decide) (by decide)).call hq_38 (by decide) (by decide)), hS, lv_sub hl [0, 1, 2] rfl⟩

set_option maxHeartbeats 4000000 in
set_option maxRecDepth 100000 in
theorem n_layWays (l : Launch) (D : va_G) (k : KT) (A : Nat → Prop) (a : Nat → Nat) (z : SK) (G : GS) (p0 : Int32) (p1 : Int32) (ha_p0 : 0 ≤ p0.toInt ∧ p0.toInt ≤ 3) (ha_p1 : 0 ≤ p1.toInt ∧ p1.toInt ≤ 2) (hP9 : gP G = 1) (hW9 : gW G = 1) (hpw : p0.toInt < (G.1 66 53).toInt) : Met l yX12_layWays (WS yX12_layWays cX12_layWays 4 none) ({ frames := 6, cells := 0, slots := 0, locals := 142 }) (va_Pc [.ref (a 66), .int p0, .int p1] (cW D k A a z G)) (va_Qv (fun (G1 : GS) => Q_layWays p0 p1 G G1) (fun (G1 : GS) t => Wd D k A a G1 t.heap) A) 0 0 A := by
  refine Met.ofW (cc := cX12_layWays) (maxL := 4) (ret := none) (by decide) rfl ?_
  intro p e s m args below meth c s₁ B hml hv
  obtain ⟨rfl, hW, hB_G, hK, hZ⟩ := hv
  have hx := B.exec
  have hb := B.bytes
  have hr := B.returns
  have hts := atoms_spec (ws := WS yX12_layWays cX12_layWays 4 none) B.pre
  have hgd : ∀ w ∈ gd, w ∈ WS yX12_layWays cX12_layWays 4 none := fun w h => List.mem_cons_of_mem _ h
  have hg : ∀ w ∈ gd, w.before _ s = true := fun w h => hts w (hgd w h)
  have hown : s.vm.findClass RX12 = some m.cls := findClass_of_methodNamed B.named
  have hS : va_S A s.heap s.heap [] := va_S.rf
  have hF : Fr [107, 76, 97, 98, 99] [(66, 59), (66, 60), (66, 61), (66, 62), (66, 63)] G G := Fr.rf
  have hl := lv_entry ([.ref (a 66), .int p0, .int p1]) (n := 4) (Nat.le_of_ble_eq_true rfl)
  rw [lg_entry_eq]
  generalize (lg_sl ([.ref (a 66), .int p0, .int p1]) ++ List.replicate (4 - (lg_sl ([.ref (a 66), .int p0, .int p1])).length) Slot.unset).toArray = ls at hl ⊢
  have hl : lv_has ls 4 [(0, .ref (a 66)), (1, .int p0), (2, .int p1)] := hl
  refine lv_iconst (v := 0) hx hb dX12_layWays_0 (by decide) ?_
  refine lv_istore_n (lv' := [(3, .int 0), (0, .ref (a 66)), (1, .int p0), (2, .int p1)]) hx hb dX12_layWays_1 rfl hl (by decide) rfl (fun ls hl => ?_)
  have qc_7 : (0 : Int32).toInt = 0 := rfl
  refine loop_N (Inv := fun n H locs ls => ∃ (G_1 : GS) (x_5 : Int32), (n : Int) = 64 - x_5.toInt ∧ (0 ≤ x_5.toInt ∧ x_5.toInt ≤ 64) ∧ Rc (St_n_layWays_1 p0 p1 G) (0, G) (x_5, G_1) ∧ Wd D k A a G_1 H ∧ Bd G_1 ∧ Fr [107, 76, 97, 98, 99] [(66, 59), (66, 60), (66, 61), (66, 62), (66, 63)] G G_1 ∧ Fr [76, 97, 98, 99, 107] [(66, 59), (66, 60), (66, 61), (66, 62), (66, 63)] G G_1 ∧ va_S A s.heap H locs ∧ lv_has ls 4 [(3, .int x_5), (0, .ref (a 66)), (1, .int p0), (2, .int p1)]) (fun n_4 H locs ls ih_3 hI => ?_) (64 - 0 : Int).toNat ⟨G, 0, (Int.toNat_of_nonneg (by omega)), ⟨by omega, by omega⟩, Rc.rf, hW, hB_G, hF, Fr.rf, hS, lv_sub hl [0, 1, 2, 3] rfl⟩
  obtain ⟨G_1, x_5, hn_9, f_8, hX_6, hW, hB_G_1, hF, hq_2, hS, hl⟩ := hI
  refine lv_iload_n hx hb dX12_layWays_2 rfl (lv_at hl 0 rfl) ?_
  refine lv_iconst (v := 1) hx hb dX12_layWays_3 (by decide) ?_
  refine lv_aload_n hx hb dX12_layWays_4 rfl (lv_at hl 1 rfl) ?_
  have b_10 : 0 ≤ (G.1 66 54).toInt ∧ (G.1 66 54).toInt ≤ 6 := hB_G.i 66 54 rfl rfl
  refine S_getI (v := (G.1 66 54)) (C := RX12) (T := TX12) (N := 89) hx hb hg iX12 hown hK hW kd_66 rfl 54 (by decide) (hg (Cond.fieldLink RX12 431 "SlabWalkModel" "rules" "I") m1368) (fun _ h9 => h9) rfl (hq_2.i 66 54 (by decide) (by decide)) dX12_layWays_5 ?_
  refine lv_ishl hx hb dX12_layWays_8 ?_
  refine lv_topi (fun y_11 ey_11 => ?_)
  have ty_11 := sh6 (Y := (G.1 66 54).toInt) rfl ey_11 rfl (by omega) (by omega)
  refine lv_icmp_ge (tgt := 31) hx hb dX12_layWays_9 (by decide) (fun c_12 => ?_) (fun c_12 => ?_)
  · have c_12 : y_11.toInt ≤ x_5.toInt := xI_le rfl rfl c_12
    exact W.vret hx hb hr (fun t ht _ => ⟨⟨G_1, rfl, (Q_layWays_mk ⟨hB_G_1, hF, ⟨x_5, G_1, hX_6, f_8, hB_G_1, hq_2, ⟨y_11, ey_11, ⟨c_12, rfl⟩⟩⟩⟩), wd_t ht hW⟩, hS.F ht⟩) hS.2.2 dX12_layWays_31
  · have c_12 : x_5.toInt < y_11.toInt := xI_nle rfl rfl c_12
    refine lv_aload_n hx hb dX12_layWays_12 rfl (lv_at hl 1 rfl) ?_
    refine S_getR (n := 107) (C := RX12) (T := TX12) (N := 89) hx hb hg iX12 hown hK hW kd_66 rfl 73 (by decide) (hg (Cond.fieldLink RX12 142 "SlabWalkModel" "hasWays" "[Z") m1387) (fun _ h9 => h9) rfl dX12_layWays_13 ?_
    refine lv_iload_n hx hb dX12_layWays_16 rfl (lv_at hl 0 rfl) ?_
    refine lv_aload_n hx hb dX12_layWays_17 rfl (lv_at hl 1 rfl) ?_
    refine lv_iload_n hx hb dX12_layWays_18 rfl (lv_at hl 2 rfl) ?_
    refine lv_iload_n hx hb dX12_layWays_19 rfl (lv_at hl 3 rfl) ?_
    refine lv_iload_n hx hb dX12_layWays_20 rfl (lv_at hl 0 rfl) ?_
    have g_13 : gP G_1 = gP G := gP_fr (rs := [76, 97, 98, 99, 107]) (fs := [(66, 59), (66, 60), (66, 61), (66, 62), (66, 63)]) (Fr.rf.call hq_2 (by decide) (by decide)) (by decide) (by decide)
    have g_14 : gW G_1 = gW G := gW_fr (rs := [76, 97, 98, 99, 107]) (fs := [(66, 59), (66, 60), (66, 61), (66, 62), (66, 63)]) (Fr.rf.call hq_2 (by decide) (by decide)) (by decide) (by decide)
    have b_15 : 0 ≤ (G.1 66 53).toInt ∧ (G.1 66 53).toInt ≤ 4 := hB_G.i 66 53 rfl rfl
    have g_16 : (G_1.1 66 53).toInt = (G.1 66 53).toInt := by rw [show G_1.1 66 53 = (G.1 66 53) from (hq_2.i 66 53 (by decide) (by decide))]
    refine S_calli (va_runV (As := [.int p0, .int p1, .int x_5]) (rest := [.int x_5, .ref (a 107)]) ⟨hx, hb, hml, hown, hts⟩ (n_hasWay l D k A a z G_1 p0 p1 x_5 ⟨by omega, by omega⟩ ⟨by omega, by omega⟩ (by omega) (by omega) (by omega)) (cwV 3 hts (gd_V hgd m1975 m1977 m109 m131 m1978) rfl rfl rfl (by decide +kernel) ⟨Nat.le_of_ble_eq_true rfl, Nat.le_of_ble_eq_true rfl⟩) (pre_V hW hB_G_1 hK hZ hS kd_66 rfl) rfl rfl hl.1 rfl (lv_room (Nat.le_of_ble_eq_true rfl)) dX12_layWays_21 ⟨Nat.le_of_ble_eq_true rfl, Nat.le_of_ble_eq_true rfl⟩) hS (fun r_17 G_18 H locs hpo hW hS => ?_)
    have hX_21 : Q_hasWay p0 p1 x_5 G_1 r_17 G_18 := hpo
    obtain ⟨hB_G_18, hq_19, f_22, -⟩ := hpo
    have hF := hF.call hq_19 (by decide) (by decide)
    refine S_zast hx hb hK hW hS kd_107 (vin (by omega) (by omega)) dX12_layWays_24 (fun G_23 H locs eG_23 hW hS => ?_)
    have hB_G_23 : Bd G_23 := hB_G_18.put (lo := 0) (hi := 1) eG_23 rfl rfl rfl nz_bool.1 nz_bool.2 (hB_G_18.2.put eG_23 rfl)
    have hF := hF.put eG_23 (Or.inl (by decide))
    obtain ⟨y_24, ey_24⟩ : ∃ q, q = x_5 + 1 := ⟨_, rfl⟩
    have ty_24 : y_24.toInt = x_5.toInt + 1 := xI_add rfl rfl ey_24 (by omega) (by omega)
    refine lv_iinc (v := y_24) (lv' := [(3, .int y_24), (0, .ref (a 66)), (1, .int p0), (2, .int p1)]) hx hb dX12_layWays_25 hl (k := 0) rfl (by rw [ey_24]; rfl) (by decide) rfl (fun ls hl => ?_)
    refine lv_goto (tgt := 2) hx hb dX12_layWays_28 (by decide) ?_
    exact ih_3 (64 - y_24.toInt : Int).toNat (by omega) _ _ _ ⟨G_23, y_24, (Int.toNat_of_nonneg (by omega)), ⟨by omega, by omega⟩, (hX_6.st (St_n_layWays_1_mk ⟨x_5, G_1, y_24, G_23, rfl, rfl, f_8, hB_G_1, ⟨y_11, ey_11, ⟨c_12, ⟨r_17, G_18, hX_21, ⟨y_24, ty_24, ⟨rfl, (Fr.rf.put eG_23 (Or.inl (by decide))), rw_ast eG_23⟩⟩⟩⟩⟩⟩)), hW, hB_G_23, hF, (((Fr.rf.call hq_2 (by decide) (by decide)).call hq_19 (by decide) (by decide)).put eG_23 (Or.inl (by decide))), hS, lv_sub hl [0, 1, 2, 3] rfl⟩

set_option maxHeartbeats 4000000 in
set_option maxRecDepth 100000 in
theorem n_wager (l : Launch) (D : va_G) (k : KT) (A : Nat → Prop) (a : Nat → Nat) (z : SK) (G : GS) (p0 : Int32) (p1 : Int32) (p2 : Int32) (p3 : Int32) (hP9 : gP G = 1) (hW9 : gW G = 1) : Met l yX12_wager (WS yX12_wager cX12_wager 6 (some .int)) ({ frames := 7, cells := 0, slots := 0, locals := 165 }) (va_Pc [.ref (a 66), .int p0, .int p1, .int p2, .int p3] (cW D k A a z G)) (va_Qi (fun (r : Int32) (G1 : GS) => Q_wager p0 p1 p2 p3 G r G1) (fun (G1 : GS) t => Wd D k A a G1 t.heap) A) 0 0 A := by
  refine Met.ofW (cc := cX12_wager) (maxL := 6) (ret := (some .int)) (by decide) rfl ?_
  intro p e s m args below meth c s₁ B hml hv
  obtain ⟨rfl, hW, hB_G, hK, hZ⟩ := hv
  have hx := B.exec
  have hb := B.bytes
  have hr := B.returns
  have hts := atoms_spec (ws := WS yX12_wager cX12_wager 6 (some .int)) B.pre
  have hgd : ∀ w ∈ gd, w ∈ WS yX12_wager cX12_wager 6 (some .int) := fun w h => List.mem_cons_of_mem _ h
  have hg : ∀ w ∈ gd, w.before _ s = true := fun w h => hts w (hgd w h)
  have hown : s.vm.findClass RX12 = some m.cls := findClass_of_methodNamed B.named
  have hS : va_S A s.heap s.heap [] := va_S.rf
  have hF : Fr [107, 108, 109, 76, 97, 98, 99] [(66, 59), (66, 60), (66, 61), (66, 62), (66, 63)] G G := Fr.rf
  have hl := lv_entry ([.ref (a 66), .int p0, .int p1, .int p2, .int p3]) (n := 6) (Nat.le_of_ble_eq_true rfl)
  rw [lg_entry_eq]
  generalize (lg_sl ([.ref (a 66), .int p0, .int p1, .int p2, .int p3]) ++ List.replicate (6 - (lg_sl ([.ref (a 66), .int p0, .int p1, .int p2, .int p3])).length) Slot.unset).toArray = ls at hl ⊢
  have hl : lv_has ls 6 [(0, .ref (a 66)), (1, .int p0), (2, .int p1), (3, .int p2), (4, .int p3)] := hl
  refine lv_aload_n hx hb dX12_wager_0 rfl (lv_at hl 0 rfl) ?_
  refine lv_iload_n hx hb dX12_wager_1 rfl (lv_at hl 1 rfl) ?_
  refine lv_iload_n hx hb dX12_wager_2 rfl (lv_at hl 2 rfl) ?_
  refine lv_iload_n hx hb dX12_wager_3 rfl (lv_at hl 3 rfl) ?_
  refine S_calli (va_runV (As := [.int p0, .int p1, .int p2]) (rest := []) ⟨hx, hb, hml, hown, hts⟩ (n_isAsked l D k A a z G p0 p1 p2 ) (cwV 3 hts (gd_V hgd m1826 m1828 m89 m131 m1829) rfl rfl rfl (by decide +kernel) ⟨Nat.le_of_ble_eq_true rfl, Nat.le_of_ble_eq_true rfl⟩) (pre_V hW hB_G hK hZ hS kd_66 rfl) rfl rfl hl.1 rfl (lv_room (Nat.le_of_ble_eq_true rfl)) dX12_wager_4 ⟨Nat.le_of_ble_eq_true rfl, Nat.le_of_ble_eq_true rfl⟩) hS (fun r_1 G_2 H locs hpo hW hS => ?_)
  have hX_5 : Q_isAsked p0 p1 p2 G r_1 G_2 := hpo
  obtain ⟨hB_G_2, hq_3, f_6, hp_4, -⟩ := hpo
  have hF := hF.call hq_3 (by decide) (by decide)
  refine lv_if_eq (tgt := 20) hx hb dX12_wager_7 (by decide) (fun c_7 => ?_) (fun c_7 => ?_)
  · have c_7 : r_1.toInt = 0 := xI_eq rfl rfl c_7
    refine lv_iconst (v := (-1)) hx hb dX12_wager_20 (by decide) ?_
    exact W.iret (v := (-1)) hx hb hr (fun t ht _ => ⟨⟨(-1), G_2, rfl, (Q_wager_mk ⟨hB_G_2, hF, ⟨r_1, G_2, hX_5, (Or.inl ⟨c_7, ⟨rfl, rfl⟩⟩)⟩⟩), wd_t ht hW⟩, hS.F ht⟩) hS.2.2 dX12_wager_21
  · have c_7 : r_1.toInt ≠ 0 := xI_ne rfl rfl c_7
    refine lv_iload hx hb dX12_wager_10 (lv_at hl 4 rfl) ?_
    refine lv_iconst (v := 0) hx hb dX12_wager_12 (by decide) ?_
    refine lv_iconst (v := 1) hx hb dX12_wager_13 (by decide) ?_
    have qc_8 : (0 : Int32).toInt = 0 := rfl
    have qc_9 : (1 : Int32).toInt = 1 := rfl
    refine S_calli (va_runS (As := [.int p3, .int 0, .int 1]) (rest := []) ⟨hx, hb, hml, hown, hts⟩ (n_isIn l D k A a z G_2 p3 0 1 ) (va_cwS 3 hts (gd_S hgd m1781 m1782 m131 m1783) rfl rfl rfl (by decide +kernel) ⟨Nat.le_of_ble_eq_true rfl, Nat.le_of_ble_eq_true rfl⟩) (pre_S hW hB_G_2 hK hZ hS) rfl rfl hl.1 rfl (lv_room (Nat.le_of_ble_eq_true rfl)) dX12_wager_14 ⟨Nat.le_of_ble_eq_true rfl, Nat.le_of_ble_eq_true rfl⟩) hS (fun r_10 G_11 H locs hpo hW hS => ?_)
    have hX_14 : Q_isIn p3 0 1 G_2 r_10 G_11 := hpo
    obtain ⟨hB_G_11, hq_12, f_15, hp_13, -⟩ := hpo
    have hF := hF.call hq_12 (by decide) (by decide)
    refine lv_if_ne (tgt := 22) hx hb dX12_wager_17 (by decide) (fun c_16 => ?_) (fun c_16 => ?_)
    · have c_16 : r_10.toInt ≠ 0 := xI_ne rfl rfl c_16
      refine lv_aload_n hx hb dX12_wager_22 rfl (lv_at hl 0 rfl) ?_
      refine lv_iload_n hx hb dX12_wager_23 rfl (lv_at hl 1 rfl) ?_
      refine lv_iload_n hx hb dX12_wager_24 rfl (lv_at hl 2 rfl) ?_
      have g_17 : gP G_11 = gP G := gP_fr (rs := []) (fs := []) ((Fr.rf.call hq_3 (by decide) (by decide)).call hq_12 (by decide) (by decide)) (by decide) (by decide)
      have g_18 : gW G_11 = gW G := gW_fr (rs := []) (fs := []) ((Fr.rf.call hq_3 (by decide) (by decide)).call hq_12 (by decide) (by decide)) (by decide) (by decide)
      have b_19 : 0 ≤ (G.1 66 53).toInt ∧ (G.1 66 53).toInt ≤ 4 := hB_G.i 66 53 rfl rfl
      have g_20 : (G_11.1 66 53).toInt = (G.1 66 53).toInt := by rw [show G_11.1 66 53 = (G.1 66 53) from ((hq_12.i 66 53 (by decide) (by decide)).trans (hq_3.i 66 53 (by decide) (by decide)))]
      refine S_callv (va_runV (As := [.int p0, .int p1]) (rest := []) ⟨hx, hb, hml, hown, hts⟩ (n_layWays l D k A a z G_11 p0 p1 ⟨by omega, by omega⟩ ⟨by omega, by omega⟩ (by omega) (by omega) (by omega)) (cwV 2 hts (gd_V hgd m1971 m1973 m108 m131 m1974) rfl rfl rfl (by decide +kernel) ⟨Nat.le_of_ble_eq_true rfl, Nat.le_of_ble_eq_true rfl⟩) (pre_V hW hB_G_11 hK hZ hS kd_66 rfl) rfl rfl hl.1 rfl (lv_room (Nat.le_of_ble_eq_true rfl)) dX12_wager_25 ⟨Nat.le_of_ble_eq_true rfl, Nat.le_of_ble_eq_true rfl⟩) hS (fun G_22 H locs hpo hW hS => ?_)
      have hX_25 : Q_layWays p0 p1 G_11 G_22 := hpo
      obtain ⟨hB_G_22, hq_23, -⟩ := hpo
      have hF := hF.call hq_23 (by decide) (by decide)
      refine lv_iconst (v := 1) hx hb dX12_wager_28 (by decide) ?_
      refine lv_aload_n hx hb dX12_wager_29 rfl (lv_at hl 0 rfl) ?_
      have b_26 : 0 ≤ (G.1 66 54).toInt ∧ (G.1 66 54).toInt ≤ 6 := hB_G.i 66 54 rfl rfl
      refine S_getI (v := (G.1 66 54)) (C := RX12) (T := TX12) (N := 89) hx hb hg iX12 hown hK hW kd_66 rfl 54 (by decide) (hg (Cond.fieldLink RX12 431 "SlabWalkModel" "rules" "I") m1368) (fun _ h9 => h9) rfl ((hq_23.i 66 54 (by decide) (by decide)).trans ((hq_12.i 66 54 (by decide) (by decide)).trans (hq_3.i 66 54 (by decide) (by decide)))) dX12_wager_30 ?_
      refine lv_ishl hx hb dX12_wager_33 ?_
      refine lv_topi (fun y_27 ey_27 => ?_)
      have ty_27 := sh6 (Y := (G.1 66 54).toInt) rfl ey_27 rfl (by omega) (by omega)
      refine lv_iconst (v := 1) hx hb dX12_wager_34 (by decide) ?_
      refine lv_isub hx hb dX12_wager_35 ?_
      refine lv_topi (fun y_28 ey_28 => ?_)
      have ty_28 : y_28.toInt = y_27.toInt - 1 := xI_sub rfl rfl ey_28 (by omega) (by omega)
      refine lv_istore (lv' := [(5, .int y_28), (0, .ref (a 66)), (1, .int p0), (2, .int p1), (3, .int p2), (4, .int p3)]) hx hb dX12_wager_36 hl (by decide) rfl (fun ls hl => ?_)
      refine loop_N (Inv := fun n H locs ls => ∃ (G_29 : GS) (x_33 : Int32), (n : Int) = x_33.toInt - (-1) ∧ ((-1) ≤ x_33.toInt ∧ x_33.toInt ≤ 63) ∧ Rc (St_n_wager_1) (y_28, G_22) (x_33, G_29) ∧ Wd D k A a G_29 H ∧ Bd G_29 ∧ Fr [107, 108, 109, 76, 97, 98, 99] [(66, 59), (66, 60), (66, 61), (66, 62), (66, 63)] G G_29 ∧ Fr [108, 109] [] G_22 G_29 ∧ va_S A s.heap H locs ∧ lv_has ls 6 [(5, .int x_33), (0, .ref (a 66)), (3, .int p2), (4, .int p3)]) (fun n_32 H locs ls ih_31 hI => ?_) (y_28.toInt - (-1) : Int).toNat ⟨G_22, y_28, (Int.toNat_of_nonneg (by omega)), ⟨by omega, by omega⟩, Rc.rf, hW, hB_G_22, hF, Fr.rf, hS, lv_sub hl [0, 1, 4, 5] rfl⟩
      obtain ⟨G_29, x_33, hn_36, f_35, hX_34, hW, hB_G_29, hF, hq_30, hS, hl⟩ := hI
      refine lv_iload hx hb dX12_wager_38 (lv_at hl 0 rfl) ?_
      refine lv_if_lt (tgt := 55) hx hb dX12_wager_40 (by decide) (fun c_37 => ?_) (fun c_37 => ?_)
      · have c_37 : x_33.toInt < 0 := xI_lt rfl rfl c_37
        refine lv_iload hx hb dX12_wager_55 (lv_at hl 3 rfl) ?_
        refine lv_if_ne (tgt := 72) hx hb dX12_wager_57 (by decide) (fun c_38 => ?_) (fun c_38 => ?_)
        · have c_38 : p3.toInt ≠ 0 := xI_ne rfl rfl c_38
          refine lv_aload_n hx hb dX12_wager_72 rfl (lv_at hl 1 rfl) ?_
          refine S_getR (n := 109) (C := RX12) (T := TX12) (N := 89) hx hb hg iX12 hown hK hW kd_66 rfl 75 (by decide) (hg (Cond.fieldLink RX12 148 "SlabWalkModel" "winsBy" "[I") m1389) (fun _ h9 => h9) rfl dX12_wager_73 ?_
          refine lv_iload_n hx hb dX12_wager_76 rfl (lv_at hl 2 rfl) ?_
          refine S_iald hx hb hK hW kd_109 (vin (by omega) (by omega)) dX12_wager_77 (fun y_39 ey_39 => ?_)
          exact W.iret (v := y_39) hx hb hr (fun t ht _ => ⟨⟨y_39, G_29, rfl, (Q_wager_mk ⟨hB_G_29, hF, ⟨r_1, G_2, hX_5, (Or.inr ⟨c_7, ⟨r_10, G_11, hX_14, (Or.inr ⟨c_16, ⟨G_22, hX_25, ⟨y_27, ey_27, ⟨y_28, ty_28, ⟨x_33, G_29, hX_34, f_35, hB_G_29, hq_30, ⟨c_37, (Or.inr ⟨c_38, ⟨y_39, ey_39, ⟨rfl, rfl⟩⟩⟩)⟩⟩⟩⟩⟩⟩)⟩⟩)⟩⟩), wd_t ht hW⟩, hS.F ht⟩) hS.2.2 dX12_wager_78
        · have c_38 : p3.toInt = 0 := xI_eq rfl rfl c_38
          refine lv_aload_n hx hb dX12_wager_60 rfl (lv_at hl 1 rfl) ?_
          refine S_getR (n := 108) (C := RX12) (T := TX12) (N := 89) hx hb hg iX12 hown hK hW kd_66 rfl 74 (by decide) (hg (Cond.fieldLink RX12 145 "SlabWalkModel" "wins" "[Z") m1388) (fun _ h9 => h9) rfl dX12_wager_61 ?_
          refine lv_iload_n hx hb dX12_wager_64 rfl (lv_at hl 2 rfl) ?_
          refine S_zald hx hb hK hW kd_108 (vin (by omega) (by omega)) dX12_wager_65 (fun y_40 ey_40 => ?_)
          have ty_40 : 0 ≤ y_40.toInt ∧ y_40.toInt ≤ 1 := hB_G_29.v ey_40 rfl rfl
          refine S_calli (va_runS (As := [.int y_40]) (rest := []) ⟨hx, hb, hml, hown, hts⟩ (n_truth l D k A a z G_29 y_40 ⟨by omega, by omega⟩) (va_cwS 1 hts (gd_S hgd m1788 m1789 m131 m1790) rfl rfl rfl (by decide +kernel) ⟨Nat.le_of_ble_eq_true rfl, Nat.le_of_ble_eq_true rfl⟩) (pre_S hW hB_G_29 hK hZ hS) rfl rfl hl.1 rfl (lv_room (Nat.le_of_ble_eq_true rfl)) dX12_wager_66 ⟨Nat.le_of_ble_eq_true rfl, Nat.le_of_ble_eq_true rfl⟩) hS (fun r_41 G_42 H locs hpo hW hS => ?_)
          have hX_45 : Q_truth y_40 G_29 r_41 G_42 := hpo
          obtain ⟨hB_G_42, hq_43, f_46, hp_44, -⟩ := hpo
          have hF := hF.call hq_43 (by decide) (by decide)
          refine lv_goto (tgt := 78) hx hb dX12_wager_69 (by decide) ?_
          exact W.iret (v := r_41) hx hb hr (fun t ht _ => ⟨⟨r_41, G_42, rfl, (Q_wager_mk ⟨hB_G_42, hF, ⟨r_1, G_2, hX_5, (Or.inr ⟨c_7, ⟨r_10, G_11, hX_14, (Or.inr ⟨c_16, ⟨G_22, hX_25, ⟨y_27, ey_27, ⟨y_28, ty_28, ⟨x_33, G_29, hX_34, f_35, hB_G_29, hq_30, ⟨c_37, (Or.inl ⟨c_38, ⟨y_40, ey_40, ⟨r_41, G_42, hX_45, ⟨rfl, rfl⟩⟩⟩⟩)⟩⟩⟩⟩⟩⟩)⟩⟩)⟩⟩), wd_t ht hW⟩, hS.F ht⟩) hS.2.2 dX12_wager_78
      · have c_37 : 0 ≤ x_33.toInt := xI_nlt rfl rfl c_37
        refine lv_aload_n hx hb dX12_wager_43 rfl (lv_at hl 1 rfl) ?_
        refine lv_iload hx hb dX12_wager_44 (lv_at hl 0 rfl) ?_
        refine S_callv (va_runV (As := [.int x_33]) (rest := []) ⟨hx, hb, hml, hown, hts⟩ (n_layWins l D k A a z G_29 x_33 ⟨by omega, by omega⟩) (cwV 1 hts (gd_V hgd m1979 m1981 m110 m131 m1982) rfl rfl rfl (by decide +kernel) ⟨Nat.le_of_ble_eq_true rfl, Nat.le_of_ble_eq_true rfl⟩) (pre_V hW hB_G_29 hK hZ hS kd_66 rfl) rfl rfl hl.1 rfl (lv_room (Nat.le_of_ble_eq_true rfl)) dX12_wager_46 ⟨Nat.le_of_ble_eq_true rfl, Nat.le_of_ble_eq_true rfl⟩) hS (fun G_48 H locs hpo hW hS => ?_)
        have hX_51 : Q_layWins x_33 G_29 G_48 := hpo
        obtain ⟨hB_G_48, hq_49, -⟩ := hpo
        have hF := hF.call hq_49 (by decide) (by decide)
        obtain ⟨y_52, ey_52⟩ : ∃ q, q = x_33 + (-1) := ⟨_, rfl⟩
        have ty_52 : y_52.toInt = x_33.toInt + (-1) := xI_add rfl rfl ey_52 (by omega) (by omega)
        refine lv_iinc (v := y_52) (lv' := [(5, .int y_52), (0, .ref (a 66)), (3, .int p2), (4, .int p3)]) hx hb dX12_wager_49 hl (k := 0) rfl (by rw [ey_52]; rfl) (by decide) rfl (fun ls hl => ?_)
        refine lv_goto (tgt := 38) hx hb dX12_wager_52 (by decide) ?_
        exact ih_31 (y_52.toInt - (-1) : Int).toNat (by omega) _ _ _ ⟨G_48, y_52, (Int.toNat_of_nonneg (by omega)), ⟨by omega, by omega⟩, (hX_34.st (St_n_wager_1_mk ⟨x_33, G_29, y_52, G_48, rfl, rfl, f_35, hB_G_29, ⟨c_37, ⟨G_48, hX_51, ⟨y_52, ty_52, ⟨rfl, rfl⟩⟩⟩⟩⟩)), hW, hB_G_48, hF, ((Fr.rf.call hq_30 (by decide) (by decide)).call hq_49 (by decide) (by decide)), hS, lv_sub hl [0, 1, 2, 3] rfl⟩
    · have c_16 : r_10.toInt = 0 := xI_eq rfl rfl c_16
      refine lv_iconst (v := (-1)) hx hb dX12_wager_20 (by decide) ?_
      exact W.iret (v := (-1)) hx hb hr (fun t ht _ => ⟨⟨(-1), G_11, rfl, (Q_wager_mk ⟨hB_G_11, hF, ⟨r_1, G_2, hX_5, (Or.inr ⟨c_7, ⟨r_10, G_11, hX_14, (Or.inl ⟨c_16, ⟨rfl, rfl⟩⟩)⟩⟩)⟩⟩), wd_t ht hW⟩, hS.F ht⟩) hS.2.2 dX12_wager_21

set_option maxHeartbeats 4000000 in
set_option maxRecDepth 100000 in
theorem n_leave (l : Launch) (D : va_G) (k : KT) (A : Nat → Prop) (a : Nat → Nat) (z : SK) (G : GS) (p0 : Int32) (p1 : Int32) (hP9 : gP G = 1) (hW9 : gW G = 1) : Met l yX12_leave (WS yX12_leave cX12_leave 5 (some .int)) ({ frames := 7, cells := 0, slots := 0, locals := 165 }) (va_Pc [.ref (a 66), .int p0, .int p1] (cW D k A a z G)) (va_Qi (fun (r : Int32) (G1 : GS) => Q_leave p0 p1 G r G1) (fun (G1 : GS) t => Wd D k A a G1 t.heap) A) 0 0 A := by
  refine Met.ofW (cc := cX12_leave) (maxL := 5) (ret := (some .int)) (by decide) rfl ?_
  intro p e s m args below meth c s₁ B hml hv
  obtain ⟨rfl, hW, hB_G, hK, hZ⟩ := hv
  have hx := B.exec
  have hb := B.bytes
  have hr := B.returns
  have hts := atoms_spec (ws := WS yX12_leave cX12_leave 5 (some .int)) B.pre
  have hgd : ∀ w ∈ gd, w ∈ WS yX12_leave cX12_leave 5 (some .int) := fun w h => List.mem_cons_of_mem _ h
  have hg : ∀ w ∈ gd, w.before _ s = true := fun w h => hts w (hgd w h)
  have hown : s.vm.findClass RX12 = some m.cls := findClass_of_methodNamed B.named
  have hS : va_S A s.heap s.heap [] := va_S.rf
  have hF : Fr [107, 76, 97, 98, 99] [(66, 59), (66, 60), (66, 61), (66, 62), (66, 63)] G G := Fr.rf
  have hl := lv_entry ([.ref (a 66), .int p0, .int p1]) (n := 5) (Nat.le_of_ble_eq_true rfl)
  rw [lg_entry_eq]
  generalize (lg_sl ([.ref (a 66), .int p0, .int p1]) ++ List.replicate (5 - (lg_sl ([.ref (a 66), .int p0, .int p1])).length) Slot.unset).toArray = ls at hl ⊢
  have hl : lv_has ls 5 [(0, .ref (a 66)), (1, .int p0), (2, .int p1)] := hl
  refine lv_aload_n hx hb dX12_leave_0 rfl (lv_at hl 0 rfl) ?_
  refine lv_iload_n hx hb dX12_leave_1 rfl (lv_at hl 1 rfl) ?_
  refine S_calli (va_runV (As := [.int p0]) (rest := []) ⟨hx, hb, hml, hown, hts⟩ (n_isWalker l D k A a z G p0 ) (cwV 1 hts (gd_V hgd m1830 m1832 m90 m131 m1833) rfl rfl rfl (by decide +kernel) ⟨Nat.le_of_ble_eq_true rfl, Nat.le_of_ble_eq_true rfl⟩) (pre_V hW hB_G hK hZ hS kd_66 rfl) rfl rfl hl.1 rfl (lv_room (Nat.le_of_ble_eq_true rfl)) dX12_leave_2 ⟨Nat.le_of_ble_eq_true rfl, Nat.le_of_ble_eq_true rfl⟩) hS (fun r_1 G_2 H locs hpo hW hS => ?_)
  have hX_5 : Q_isWalker p0 G r_1 G_2 := hpo
  obtain ⟨hB_G_2, hq_3, f_6, hp_4, -⟩ := hpo
  have hF := hF.call hq_3 (by decide) (by decide)
  refine lv_if_eq (tgt := 16) hx hb dX12_leave_5 (by decide) (fun c_7 => ?_) (fun c_7 => ?_)
  · have c_7 : r_1.toInt = 0 := xI_eq rfl rfl c_7
    refine lv_iconst (v := (-1)) hx hb dX12_leave_16 (by decide) ?_
    exact W.iret (v := (-1)) hx hb hr (fun t ht _ => ⟨⟨(-1), G_2, rfl, (Q_leave_mk ⟨hB_G_2, hF, ⟨r_1, G_2, hX_5, (Or.inl ⟨c_7, ⟨rfl, rfl⟩⟩)⟩⟩), wd_t ht hW⟩, hS.F ht⟩) hS.2.2 dX12_leave_17
  · have c_7 : r_1.toInt ≠ 0 := xI_ne rfl rfl c_7
    refine lv_aload_n hx hb dX12_leave_8 rfl (lv_at hl 0 rfl) ?_
    refine lv_iload_n hx hb dX12_leave_9 rfl (lv_at hl 2 rfl) ?_
    have b_8 : 0 ≤ (G.1 66 52).toInt ∧ (G.1 66 52).toInt ≤ 3 := hB_G.i 66 52 rfl rfl
    have g_9 : (G_2.1 66 52).toInt = (G.1 66 52).toInt := by rw [show G_2.1 66 52 = (G.1 66 52) from (hq_3.i 66 52 (by decide) (by decide))]
    refine S_calli (va_runV (As := [.int p1]) (rest := []) ⟨hx, hb, hml, hown, hts⟩ (n_isStreet l D k A a z G_2 p1 ) (cwV 1 hts (gd_V hgd m1777 m1779 m83 m131 m1780) rfl rfl rfl (by decide +kernel) ⟨Nat.le_of_ble_eq_true rfl, Nat.le_of_ble_eq_true rfl⟩) (pre_V hW hB_G_2 hK hZ hS kd_66 rfl) rfl rfl hl.1 rfl (lv_room (Nat.le_of_ble_eq_true rfl)) dX12_leave_10 ⟨Nat.le_of_ble_eq_true rfl, Nat.le_of_ble_eq_true rfl⟩) hS (fun r_10 G_11 H locs hpo hW hS => ?_)
    have hX_14 : Q_isStreet p1 G_2 r_10 G_11 := hpo
    obtain ⟨hB_G_11, hq_12, f_15, hp_13, -⟩ := hpo
    have hF := hF.call hq_12 (by decide) (by decide)
    refine lv_if_ne (tgt := 18) hx hb dX12_leave_13 (by decide) (fun c_16 => ?_) (fun c_16 => ?_)
    · have c_16 : r_10.toInt ≠ 0 := xI_ne rfl rfl c_16
      refine lv_aload_n hx hb dX12_leave_18 rfl (lv_at hl 0 rfl) ?_
      refine lv_iload_n hx hb dX12_leave_19 rfl (lv_at hl 1 rfl) ?_
      refine lv_iload_n hx hb dX12_leave_20 rfl (lv_at hl 2 rfl) ?_
      have g_17 : gP G_11 = gP G := gP_fr (rs := []) (fs := []) ((Fr.rf.call hq_3 (by decide) (by decide)).call hq_12 (by decide) (by decide)) (by decide) (by decide)
      have g_18 : gW G_11 = gW G := gW_fr (rs := []) (fs := []) ((Fr.rf.call hq_3 (by decide) (by decide)).call hq_12 (by decide) (by decide)) (by decide) (by decide)
      have b_19 : 0 ≤ (G.1 66 53).toInt ∧ (G.1 66 53).toInt ≤ 4 := hB_G.i 66 53 rfl rfl
      have g_20 : (G_11.1 66 53).toInt = (G.1 66 53).toInt := by rw [show G_11.1 66 53 = (G.1 66 53) from ((hq_12.i 66 53 (by decide) (by decide)).trans (hq_3.i 66 53 (by decide) (by decide)))]
      refine S_callv (va_runV (As := [.int p0, .int p1]) (rest := []) ⟨hx, hb, hml, hown, hts⟩ (n_layWays l D k A a z G_11 p0 p1 ⟨by omega, by omega⟩ ⟨by omega, by omega⟩ (by omega) (by omega) (by omega)) (cwV 2 hts (gd_V hgd m1971 m1973 m108 m131 m1974) rfl rfl rfl (by decide +kernel) ⟨Nat.le_of_ble_eq_true rfl, Nat.le_of_ble_eq_true rfl⟩) (pre_V hW hB_G_11 hK hZ hS kd_66 rfl) rfl rfl hl.1 rfl (lv_room (Nat.le_of_ble_eq_true rfl)) dX12_leave_21 ⟨Nat.le_of_ble_eq_true rfl, Nat.le_of_ble_eq_true rfl⟩) hS (fun G_22 H locs hpo hW hS => ?_)
      have hX_25 : Q_layWays p0 p1 G_11 G_22 := hpo
      obtain ⟨hB_G_22, hq_23, -⟩ := hpo
      have hF := hF.call hq_23 (by decide) (by decide)
      refine lv_iconst (v := 0) hx hb dX12_leave_24 (by decide) ?_
      refine lv_istore_n (lv' := [(3, .int 0), (0, .ref (a 66)), (1, .int p0), (2, .int p1)]) hx hb dX12_leave_25 rfl hl (by decide) rfl (fun ls hl => ?_)
      refine lv_iconst (v := 0) hx hb dX12_leave_26 (by decide) ?_
      refine lv_istore (lv' := [(4, .int 0), (3, .int 0), (0, .ref (a 66)), (1, .int p0), (2, .int p1)]) hx hb dX12_leave_27 hl (by decide) rfl (fun ls hl => ?_)
      have qc_33 : (0 : Int32).toInt = 0 := rfl
      refine loop_N (Inv := fun n H locs ls => ∃ (G_26 : GS) (x_30 : Int32) (x_31 : Int32), (n : Int) = 64 - x_30.toInt ∧ (0 ≤ x_30.toInt ∧ x_30.toInt ≤ 64) ∧ Rc (St_n_leave_1 G) (0, 0, G_22) (x_30, x_31, G_26) ∧ Wd D k A a G_26 H ∧ Bd G_26 ∧ Fr [107, 76, 97, 98, 99] [(66, 59), (66, 60), (66, 61), (66, 62), (66, 63)] G G_26 ∧ Fr [] [] G_22 G_26 ∧ va_S A s.heap H locs ∧ lv_has ls 5 [(4, .int x_30), (3, .int x_31), (0, .ref (a 66))]) (fun n_29 H locs ls ih_28 hI => ?_) (64 - 0 : Int).toNat ⟨G_22, 0, 0, (Int.toNat_of_nonneg (by omega)), ⟨by omega, by omega⟩, Rc.rf, hW, hB_G_22, hF, Fr.rf, hS, lv_sub hl [0, 1, 2] rfl⟩
      obtain ⟨G_26, x_30, x_31, hn_35, f_34, hX_32, hW, hB_G_26, hF, hq_27, hS, hl⟩ := hI
      refine lv_iload hx hb dX12_leave_29 (lv_at hl 0 rfl) ?_
      refine lv_iconst (v := 1) hx hb dX12_leave_31 (by decide) ?_
      refine lv_aload_n hx hb dX12_leave_32 rfl (lv_at hl 2 rfl) ?_
      have b_36 : 0 ≤ (G.1 66 54).toInt ∧ (G.1 66 54).toInt ≤ 6 := hB_G.i 66 54 rfl rfl
      refine S_getI (v := (G.1 66 54)) (C := RX12) (T := TX12) (N := 89) hx hb hg iX12 hown hK hW kd_66 rfl 54 (by decide) (hg (Cond.fieldLink RX12 431 "SlabWalkModel" "rules" "I") m1368) (fun _ h9 => h9) rfl ((hq_27.i 66 54 (by decide) (by decide)).trans ((hq_23.i 66 54 (by decide) (by decide)).trans ((hq_12.i 66 54 (by decide) (by decide)).trans (hq_3.i 66 54 (by decide) (by decide))))) dX12_leave_33 ?_
      refine lv_ishl hx hb dX12_leave_36 ?_
      refine lv_topi (fun y_37 ey_37 => ?_)
      have ty_37 := sh6 (Y := (G.1 66 54).toInt) rfl ey_37 rfl (by omega) (by omega)
      refine lv_icmp_ge (tgt := 59) hx hb dX12_leave_37 (by decide) (fun c_38 => ?_) (fun c_38 => ?_)
      · have c_38 : y_37.toInt ≤ x_30.toInt := xI_le rfl rfl c_38
        refine lv_iload_n hx hb dX12_leave_59 rfl (lv_at hl 1 rfl) ?_
        exact W.iret (v := x_31) hx hb hr (fun t ht _ => ⟨⟨x_31, G_26, rfl, (Q_leave_mk ⟨hB_G_26, hF, ⟨r_1, G_2, hX_5, (Or.inr ⟨c_7, ⟨r_10, G_11, hX_14, (Or.inr ⟨c_16, ⟨G_22, hX_25, ⟨x_30, x_31, G_26, hX_32, f_34, hB_G_26, hq_27, ⟨y_37, ey_37, ⟨c_38, ⟨rfl, rfl⟩⟩⟩⟩⟩⟩)⟩⟩)⟩⟩), wd_t ht hW⟩, hS.F ht⟩) hS.2.2 dX12_leave_60
      · have c_38 : x_30.toInt < y_37.toInt := xI_nle rfl rfl c_38
        refine lv_iload_n hx hb dX12_leave_40 rfl (lv_at hl 1 rfl) ?_
        refine lv_aload_n hx hb dX12_leave_41 rfl (lv_at hl 2 rfl) ?_
        refine S_getR (n := 107) (C := RX12) (T := TX12) (N := 89) hx hb hg iX12 hown hK hW kd_66 rfl 73 (by decide) (hg (Cond.fieldLink RX12 142 "SlabWalkModel" "hasWays" "[Z") m1387) (fun _ h9 => h9) rfl dX12_leave_42 ?_
        refine lv_iload hx hb dX12_leave_45 (lv_at hl 0 rfl) ?_
        refine S_zald hx hb hK hW kd_107 (vin (by omega) (by omega)) dX12_leave_47 (fun y_39 ey_39 => ?_)
        have ty_39 : 0 ≤ y_39.toInt ∧ y_39.toInt ≤ 1 := hB_G_26.v ey_39 rfl rfl
        refine S_calli (va_runS (As := [.int y_39]) (rest := [.int x_31]) ⟨hx, hb, hml, hown, hts⟩ (n_truth l D k A a z G_26 y_39 ⟨by omega, by omega⟩) (va_cwS 1 hts (gd_S hgd m1788 m1789 m131 m1790) rfl rfl rfl (by decide +kernel) ⟨Nat.le_of_ble_eq_true rfl, Nat.le_of_ble_eq_true rfl⟩) (pre_S hW hB_G_26 hK hZ hS) rfl rfl hl.1 rfl (lv_room (Nat.le_of_ble_eq_true rfl)) dX12_leave_48 ⟨Nat.le_of_ble_eq_true rfl, Nat.le_of_ble_eq_true rfl⟩) hS (fun r_40 G_41 H locs hpo hW hS => ?_)
        have hX_44 : Q_truth y_39 G_26 r_40 G_41 := hpo
        obtain ⟨hB_G_41, hq_42, f_45, hp_43, -⟩ := hpo
        have hF := hF.call hq_42 (by decide) (by decide)
        refine lv_iadd hx hb dX12_leave_51 ?_
        refine lv_topi (fun y_46 ey_46 => ?_)
        refine lv_istore_n (lv' := [(3, .int y_46), (4, .int x_30), (0, .ref (a 66))]) hx hb dX12_leave_52 rfl hl (by decide) rfl (fun ls hl => ?_)
        obtain ⟨y_47, ey_47⟩ : ∃ q, q = x_30 + 1 := ⟨_, rfl⟩
        have ty_47 : y_47.toInt = x_30.toInt + 1 := xI_add rfl rfl ey_47 (by omega) (by omega)
        refine lv_iinc (v := y_47) (lv' := [(4, .int y_47), (3, .int y_46), (0, .ref (a 66))]) hx hb dX12_leave_53 hl (k := 1) rfl (by rw [ey_47]; rfl) (by decide) rfl (fun ls hl => ?_)
        refine lv_goto (tgt := 29) hx hb dX12_leave_56 (by decide) ?_
        exact ih_28 (64 - y_47.toInt : Int).toNat (by omega) _ _ _ ⟨G_41, y_47, y_46, (Int.toNat_of_nonneg (by omega)), ⟨by omega, by omega⟩, (hX_32.st (St_n_leave_1_mk ⟨x_30, x_31, G_26, y_47, y_46, G_41, rfl, rfl, f_34, hB_G_26, ⟨y_37, ey_37, ⟨c_38, ⟨y_39, ey_39, ⟨r_40, G_41, hX_44, ⟨y_46, ey_46, ⟨y_47, ty_47, ⟨rfl, rfl, rfl⟩⟩⟩⟩⟩⟩⟩⟩)), hW, hB_G_41, hF, ((Fr.rf.call hq_27 (by decide) (by decide)).call hq_42 (by decide) (by decide)), hS, lv_sub hl [0, 1, 2] rfl⟩
    · have c_16 : r_10.toInt = 0 := xI_eq rfl rfl c_16
      refine lv_iconst (v := (-1)) hx hb dX12_leave_16 (by decide) ?_
      exact W.iret (v := (-1)) hx hb hr (fun t ht _ => ⟨⟨(-1), G_11, rfl, (Q_leave_mk ⟨hB_G_11, hF, ⟨r_1, G_2, hX_5, (Or.inr ⟨c_7, ⟨r_10, G_11, hX_14, (Or.inl ⟨c_16, ⟨rfl, rfl⟩⟩)⟩⟩)⟩⟩), wd_t ht hW⟩, hS.F ht⟩) hS.2.2 dX12_leave_17

set_option maxHeartbeats 4000000 in
set_option maxRecDepth 100000 in
theorem n_fewest (l : Launch) (D : va_G) (k : KT) (A : Nat → Prop) (a : Nat → Nat) (z : SK) (G : GS) (p0 : Int32) (p1 : Int32) (p2 : Int32) (p3 : Int32) (hP9 : gP G = 1) (hW9 : gW G = 1) : Met l yX12_fewest (WS yX12_fewest cX12_fewest 11 (some .int)) ({ frames := 5, cells := 0, slots := 0, locals := 117 }) (va_Pc [.ref (a 66), .int p0, .int p1, .int p2, .int p3] (cW D k A a z G)) (va_Qi (fun (r : Int32) (G1 : GS) => Q_fewest p0 p1 p2 p3 G r G1) (fun (G1 : GS) t => Wd D k A a G1 t.heap) A) 0 0 A := by
  refine Met.ofW (cc := cX12_fewest) (maxL := 11) (ret := (some .int)) (by decide) rfl ?_
  intro p e s m args below meth c s₁ B hml hv
  obtain ⟨rfl, hW, hB_G, hK, hZ⟩ := hv
  have hx := B.exec
  have hb := B.bytes
  have hr := B.returns
  have hts := atoms_spec (ws := WS yX12_fewest cX12_fewest 11 (some .int)) B.pre
  have hgd : ∀ w ∈ gd, w ∈ WS yX12_fewest cX12_fewest 11 (some .int) := fun w h => List.mem_cons_of_mem _ h
  have hg : ∀ w ∈ gd, w.before _ s = true := fun w h => hts w (hgd w h)
  have hown : s.vm.findClass RX12 = some m.cls := findClass_of_methodNamed B.named
  have hS : va_S A s.heap s.heap [] := va_S.rf
  have hF : Fr [100, 76, 97, 98, 99] [(66, 59), (66, 60), (66, 61), (66, 62), (66, 63), (66, 66)] G G := Fr.rf
  have hl := lv_entry ([.ref (a 66), .int p0, .int p1, .int p2, .int p3]) (n := 11) (Nat.le_of_ble_eq_true rfl)
  rw [lg_entry_eq]
  generalize (lg_sl ([.ref (a 66), .int p0, .int p1, .int p2, .int p3]) ++ List.replicate (11 - (lg_sl ([.ref (a 66), .int p0, .int p1, .int p2, .int p3])).length) Slot.unset).toArray = ls at hl ⊢
  have hl : lv_has ls 11 [(0, .ref (a 66)), (1, .int p0), (2, .int p1), (3, .int p2), (4, .int p3)] := hl
  refine lv_aload_n hx hb dX12_fewest_0 rfl (lv_at hl 0 rfl) ?_
  refine lv_iconst (v := 0) hx hb dX12_fewest_1 (by decide) ?_
  refine S_putI (ty := .int) (C := RX12) (T := TX12) (N := 89) hx hb hg iX12 tyX12 tyX12_ok nmX12 hown hK hW hS kd_66 rfl 66 (by decide) (hg (Cond.fieldLink RX12 446 "SlabWalkModel" "lain" "I") m1380) (fun _ h9 => h9) rfl (by decide +kernel) rfl rfl rfl dX12_fewest_2 (fun G_1 H locs eG_1 hW hS => ?_)
  have hB_G_1 : Bd G_1 := hB_G.put (V := 0) (lo := 0) (hi := 400) eG_1 rfl rfl rfl (by omega) (by omega) (hB_G.2.put eG_1 rfl)
  have hF := hF.put eG_1 (Or.inr (by decide))
  refine lv_aload_n hx hb dX12_fewest_5 rfl (lv_at hl 0 rfl) ?_
  refine lv_iload_n hx hb dX12_fewest_6 rfl (lv_at hl 1 rfl) ?_
  refine lv_iload_n hx hb dX12_fewest_7 rfl (lv_at hl 2 rfl) ?_
  refine lv_iload_n hx hb dX12_fewest_8 rfl (lv_at hl 3 rfl) ?_
  have b_2 : 0 ≤ (G.1 66 52).toInt ∧ (G.1 66 52).toInt ≤ 3 := hB_G.i 66 52 rfl rfl
  have g_3 : (G_1.1 66 52).toInt = (G.1 66 52).toInt := by rw [show G_1.1 66 52 = (G.1 66 52) from (gp_ne eG_1 (by decide))]
  have b_4 : 0 ≤ (G.1 66 53).toInt ∧ (G.1 66 53).toInt ≤ 4 := hB_G.i 66 53 rfl rfl
  have g_5 : (G_1.1 66 53).toInt = (G.1 66 53).toInt := by rw [show G_1.1 66 53 = (G.1 66 53) from (gp_ne eG_1 (by decide))]
  refine S_calli (va_runV (As := [.int p0, .int p1, .int p2]) (rest := []) ⟨hx, hb, hml, hown, hts⟩ (n_isAsked l D k A a z G_1 p0 p1 p2 ) (cwV 3 hts (gd_V hgd m1826 m1828 m89 m131 m1829) rfl rfl rfl (by decide +kernel) ⟨Nat.le_of_ble_eq_true rfl, Nat.le_of_ble_eq_true rfl⟩) (pre_V hW hB_G_1 hK hZ hS kd_66 rfl) rfl rfl hl.1 rfl (lv_room (Nat.le_of_ble_eq_true rfl)) dX12_fewest_9 ⟨Nat.le_of_ble_eq_true rfl, Nat.le_of_ble_eq_true rfl⟩) hS (fun r_6 G_7 H locs hpo hW hS => ?_)
  have hX_10 : Q_isAsked p0 p1 p2 G_1 r_6 G_7 := hpo
  obtain ⟨hB_G_7, hq_8, f_11, hp_9, -⟩ := hpo
  have hF := hF.call hq_8 (by decide) (by decide)
  refine lv_if_eq (tgt := 25) hx hb dX12_fewest_12 (by decide) (fun c_12 => ?_) (fun c_12 => ?_)
  · have c_12 : r_6.toInt = 0 := xI_eq rfl rfl c_12
    refine lv_iconst (v := (-1)) hx hb dX12_fewest_25 (by decide) ?_
    exact W.iret (v := (-1)) hx hb hr (fun t ht _ => ⟨⟨(-1), G_7, rfl, (Q_fewest_mk ⟨hB_G_7, hF, ⟨G_1, hB_G_1, (Fr.rf.put eG_1 (Or.inr (by decide))), (gp_eq eG_1), ⟨r_6, G_7, hX_10, (Or.inl ⟨c_12, ⟨rfl, rfl⟩⟩)⟩⟩⟩), wd_t ht hW⟩, hS.F ht⟩) hS.2.2 dX12_fewest_26
  · have c_12 : r_6.toInt ≠ 0 := xI_ne rfl rfl c_12
    refine lv_iload hx hb dX12_fewest_15 (lv_at hl 4 rfl) ?_
    refine lv_iconst (v := 0) hx hb dX12_fewest_17 (by decide) ?_
    refine lv_iconst (v := 2) hx hb dX12_fewest_18 (by decide) ?_
    have qc_13 : (0 : Int32).toInt = 0 := rfl
    have qc_14 : (2 : Int32).toInt = 2 := rfl
    refine S_calli (va_runS (As := [.int p3, .int 0, .int 2]) (rest := []) ⟨hx, hb, hml, hown, hts⟩ (n_isIn l D k A a z G_7 p3 0 2 ) (va_cwS 3 hts (gd_S hgd m1781 m1782 m131 m1783) rfl rfl rfl (by decide +kernel) ⟨Nat.le_of_ble_eq_true rfl, Nat.le_of_ble_eq_true rfl⟩) (pre_S hW hB_G_7 hK hZ hS) rfl rfl hl.1 rfl (lv_room (Nat.le_of_ble_eq_true rfl)) dX12_fewest_19 ⟨Nat.le_of_ble_eq_true rfl, Nat.le_of_ble_eq_true rfl⟩) hS (fun r_15 G_16 H locs hpo hW hS => ?_)
    have hX_19 : Q_isIn p3 0 2 G_7 r_15 G_16 := hpo
    obtain ⟨hB_G_16, hq_17, f_20, hp_18, -⟩ := hpo
    have hF := hF.call hq_17 (by decide) (by decide)
    refine lv_if_ne (tgt := 27) hx hb dX12_fewest_22 (by decide) (fun c_21 => ?_) (fun c_21 => ?_)
    · have c_21 : r_15.toInt ≠ 0 := xI_ne rfl rfl c_21
      refine lv_aload_n hx hb dX12_fewest_27 rfl (lv_at hl 0 rfl) ?_
      refine lv_iload_n hx hb dX12_fewest_28 rfl (lv_at hl 1 rfl) ?_
      refine lv_iload_n hx hb dX12_fewest_29 rfl (lv_at hl 2 rfl) ?_
      refine lv_iload_n hx hb dX12_fewest_30 rfl (lv_at hl 3 rfl) ?_
      have g_22 : gP G_16 = gP G := gP_fr (rs := []) (fs := [(66, 66)]) (((Fr.rf.put eG_1 (Or.inr (by decide))).call hq_8 (by decide) (by decide)).call hq_17 (by decide) (by decide)) (by decide) (by decide)
      refine S_callv (va_runV (As := [.int p0, .int p1, .int p2]) (rest := []) ⟨hx, hb, hml, hown, hts⟩ (n_layStreet l D k A a z G_16 p0 p1 p2 ⟨by omega, by omega⟩ ⟨by omega, by omega⟩ (by omega)) (cwV 3 hts (gd_V hgd m1834 m1836 m91 m131 m1837) rfl rfl rfl (by decide +kernel) ⟨Nat.le_of_ble_eq_true rfl, Nat.le_of_ble_eq_true rfl⟩) (pre_V hW hB_G_16 hK hZ hS kd_66 rfl) rfl rfl hl.1 rfl (lv_room (Nat.le_of_ble_eq_true rfl)) dX12_fewest_31 ⟨Nat.le_of_ble_eq_true rfl, Nat.le_of_ble_eq_true rfl⟩) hS (fun G_24 H locs hpo hW hS => ?_)
      have hX_27 : Q_layStreet p0 p1 p2 G_16 G_24 := hpo
      obtain ⟨hB_G_24, hq_25, hp_26, -⟩ := hpo
      have hF := hF.call hq_25 (by decide) (by decide)
      have b_28 : 0 ≤ (G.1 66 53).toInt ∧ (G.1 66 53).toInt ≤ 4 := hB_G.i 66 53 rfl rfl
      have u_29 := gW_at hW9 p0 (by omega) (by omega)
      have u_30 : (G_16.1 92 p0.toNatClampNeg).toInt = (G.1 92 p0.toNatClampNeg).toInt := congrArg Int32.toInt (((hq_17.ri 92 (by decide) (by decide) p0.toNatClampNeg).trans ((hq_8.ri 92 (by decide) (by decide) p0.toNatClampNeg).trans (gp_ne eG_1 (fun q => absurd q.1 (by decide))))))
      have u_31 : (G_16.1 93 p0.toNatClampNeg).toInt = (G.1 93 p0.toNatClampNeg).toInt := congrArg Int32.toInt (((hq_17.ri 93 (by decide) (by decide) p0.toNatClampNeg).trans ((hq_8.ri 93 (by decide) (by decide) p0.toNatClampNeg).trans (gp_ne eG_1 (fun q => absurd q.1 (by decide))))))
      have u_32 : (G_16.1 94 p0.toNatClampNeg).toInt = (G.1 94 p0.toNatClampNeg).toInt := congrArg Int32.toInt (((hq_17.ri 94 (by decide) (by decide) p0.toNatClampNeg).trans ((hq_8.ri 94 (by decide) (by decide) p0.toNatClampNeg).trans (gp_ne eG_1 (fun q => absurd q.1 (by decide))))))
      have u_33 : (G_16.1 95 p0.toNatClampNeg).toInt = (G.1 95 p0.toNatClampNeg).toInt := congrArg Int32.toInt (((hq_17.ri 95 (by decide) (by decide) p0.toNatClampNeg).trans ((hq_8.ri 95 (by decide) (by decide) p0.toNatClampNeg).trans (gp_ne eG_1 (fun q => absurd q.1 (by decide))))))
      have b_34 : 0 ≤ (G_24.1 66 60).toInt ∧ (G_24.1 66 60).toInt ≤ 12 := hB_G_24.i 66 60 rfl rfl
      have b_35 : 0 ≤ (G_24.1 66 61).toInt ∧ (G_24.1 66 61).toInt ≤ 60 := hB_G_24.i 66 61 rfl rfl
      have b_36 : 0 ≤ (G_24.1 66 62).toInt ∧ (G_24.1 66 62).toInt ≤ 60 := hB_G_24.i 66 62 rfl rfl
      have b_37 : 0 ≤ (G_24.1 66 63).toInt ∧ (G_24.1 66 63).toInt ≤ 99 := hB_G_24.i 66 63 rfl rfl
      refine lv_aload_n hx hb dX12_fewest_34 rfl (lv_at hl 0 rfl) ?_
      have b_38 : 0 ≤ (G_24.1 98 400).toInt ∧ (G_24.1 98 400).toInt ≤ 1 := hB_G_24.i 98 400 rfl rfl
      refine S_callv (va_runV (As := []) (rest := []) ⟨hx, hb, hml, hown, hts⟩ (n_layNeeds l D k A a z G_24  (by omega) (by omega) (by omega)) (cwV 0 hts (gd_V hgd m1846 m1848 m93 m131 m1849) rfl rfl rfl (by decide +kernel) ⟨Nat.le_of_ble_eq_true rfl, Nat.le_of_ble_eq_true rfl⟩) (pre_V hW hB_G_24 hK hZ hS kd_66 rfl) rfl rfl hl.1 rfl (lv_room (Nat.le_of_ble_eq_true rfl)) dX12_fewest_35 ⟨Nat.le_of_ble_eq_true rfl, Nat.le_of_ble_eq_true rfl⟩) hS (fun G_40 H locs hpo hW hS => ?_)
      have hX_43 : Q_layNeeds G_24 G_40 := hpo
      obtain ⟨hB_G_40, hq_41, hp_42, -⟩ := hpo
      have hF := hF.call hq_41 (by decide) (by decide)
      have g_44 : (G_40.1 66 61).toInt = (G_24.1 66 61).toInt := by rw [show G_40.1 66 61 = (G_24.1 66 61) from ((hq_41.i 66 61 (by decide) (by decide)).trans (rfl))]
      have g_45 : (G_40.1 66 62).toInt = (G_24.1 66 62).toInt := by rw [show G_40.1 66 62 = (G_24.1 66 62) from ((hq_41.i 66 62 (by decide) (by decide)).trans (rfl))]
      have g_46 : (G_40.1 66 63).toInt = (G_24.1 66 63).toInt := by rw [show G_40.1 66 63 = (G_24.1 66 63) from ((hq_41.i 66 63 (by decide) (by decide)).trans (rfl))]
      have g_47 : (G_40.1 98 400).toInt = (G_24.1 98 400).toInt := by rw [show G_40.1 98 400 = (G_24.1 98 400) from ((hq_41.i 98 400 (by decide) (by decide)).trans (rfl))]
      have hrow98 : G_40.1 98 = G_24.1 98 := (funext fun j => ((fun (j : Nat) (_ : True) => (hq_41.ri 98 (by decide) (by decide) j))) j trivial)
      refine lv_iconst (v := (-1)) hx hb dX12_fewest_38 (by decide) ?_
      refine lv_istore (lv' := [(5, .int (-1)), (0, .ref (a 66)), (1, .int p0), (2, .int p1), (3, .int p2), (4, .int p3)]) hx hb dX12_fewest_39 hl (by decide) rfl (fun ls hl => ?_)
      refine lv_iconst (v := 0) hx hb dX12_fewest_41 (by decide) ?_
      refine lv_istore (lv' := [(6, .int 0), (5, .int (-1)), (0, .ref (a 66)), (1, .int p0), (2, .int p1), (3, .int p2), (4, .int p3)]) hx hb dX12_fewest_42 hl (by decide) rfl (fun ls hl => ?_)
      have qc_55 : ((-1) : Int32).toInt = (-1) := rfl
      have qc_56 : (0 : Int32).toInt = 0 := rfl
      refine loop_N (Inv := fun n H locs ls => ∃ (G_48 : GS) (x_52 : Int32) (x_53 : Int32), (n : Int) = 60 - x_52.toInt ∧ (0 ≤ x_52.toInt ∧ x_52.toInt ≤ 60) ∧ ((-1) ≤ x_53.toInt ∧ x_53.toInt ≤ 59) ∧ (x_53.toInt = -1 ∨ ndv (G_40.1 99) x_53.toInt 0 p3.toInt < 100000) ∧ Rc (St_n_fewest_1 p3 G_24 G_40) (0, (-1), G_40) (x_52, x_53, G_48) ∧ Wd D k A a G_48 H ∧ Bd G_48 ∧ Fr [100, 76, 97, 98, 99] [(66, 59), (66, 60), (66, 61), (66, 62), (66, 63), (66, 66)] G G_48 ∧ Fr [] [] G_40 G_48 ∧ va_S A s.heap H locs ∧ lv_has ls 11 [(6, .int x_52), (5, .int x_53), (0, .ref (a 66)), (4, .int p3)]) (fun n_51 H locs ls ih_50 hI => ?_) (60 - 0 : Int).toNat ⟨G_40, 0, (-1), (Int.toNat_of_nonneg (by omega)), ⟨by omega, by omega⟩, ⟨by omega, by omega⟩, (by omega), Rc.rf, hW, hB_G_40, hF, Fr.rf, hS, lv_sub hl [0, 1, 2, 6] rfl⟩
      obtain ⟨G_48, x_52, x_53, hn_60, f_57, f_58, f_59, hX_54, hW, hB_G_48, hF, hq_49, hS, hl⟩ := hI
      refine lv_iload hx hb dX12_fewest_44 (lv_at hl 0 rfl) ?_
      refine lv_aload_n hx hb dX12_fewest_46 rfl (lv_at hl 2 rfl) ?_
      refine S_getI (v := (G_24.1 66 62)) (C := RX12) (T := TX12) (N := 89) hx hb hg iX12 hown hK hW kd_66 rfl 62 (by decide) (hg (Cond.fieldLink RX12 478 "SlabWalkModel" "most" "I") m1376) (fun _ h9 => h9) rfl ((hq_49.i 66 62 (by decide) (by decide)).trans ((hq_41.i 66 62 (by decide) (by decide)).trans (rfl))) dX12_fewest_47 ?_
      refine lv_icmp_ge (tgt := 104) hx hb dX12_fewest_50 (by decide) (fun c_61 => ?_) (fun c_61 => ?_)
      · have c_61 : (G_24.1 66 62).toInt ≤ x_52.toInt := xI_le rfl rfl c_61
        refine lv_iload hx hb dX12_fewest_104 (lv_at hl 1 rfl) ?_
        refine lv_if_ge (tgt := 111) hx hb dX12_fewest_106 (by decide) (fun c_62 => ?_) (fun c_62 => ?_)
        · have c_62 : 0 ≤ x_53.toInt := xI_le rfl rfl c_62
          refine lv_aload_n hx hb dX12_fewest_111 rfl (lv_at hl 2 rfl) ?_
          refine lv_iload hx hb dX12_fewest_112 (lv_at hl 1 rfl) ?_
          refine lv_iconst (v := 0) hx hb dX12_fewest_114 (by decide) ?_
          refine lv_iload hx hb dX12_fewest_115 (lv_at hl 3 rfl) ?_
          have qc_63 : (0 : Int32).toInt = 0 := rfl
          refine S_calli (va_runV (As := [.int x_53, .int 0, .int p3]) (rest := []) ⟨hx, hb, hml, hown, hts⟩ (n_needOf l D k A a z G_48 x_53 0 p3 ⟨by omega, by omega⟩ ⟨by decide, by decide⟩ ⟨by omega, by omega⟩) (cwV 3 hts (gd_V hgd m1859 m1861 m96 m131 m1862) rfl rfl rfl (by decide +kernel) ⟨Nat.le_of_ble_eq_true rfl, Nat.le_of_ble_eq_true rfl⟩) (pre_V hW hB_G_48 hK hZ hS kd_66 rfl) rfl rfl hl.1 rfl (lv_room (Nat.le_of_ble_eq_true rfl)) dX12_fewest_117 ⟨Nat.le_of_ble_eq_true rfl, Nat.le_of_ble_eq_true rfl⟩) hS (fun r_64 G_65 H locs hpo hW hS => ?_)
          have hX_68 : Q_needOf x_53 0 p3 G_48 r_64 G_65 := hpo
          obtain ⟨hB_G_65, hq_66, f_69, hp_67, -⟩ := hpo
          have hF := hF.call hq_66 (by decide) (by decide)
          have hm_70 : r_64.toInt = ndv (G_40.1 99) x_53.toInt 0 p3.toInt := hp_67.trans (ndv_eq3 (show G_48.1 99 = G_40.1 99 from (funext fun j => ((fun (j : Nat) (_ : True) => (hq_49.ri 99 (by decide) (by decide) j))) j trivial)) rfl rfl rfl)
          have u_71 := PRG_1 hp_42 (x := x_53.toInt) (l := 0) (i := p3.toInt) (by omega) (by omega) (by omega) (by omega) (by omega)
          refine lv_istore (lv' := [(6, .int r_64), (5, .int x_53), (0, .ref (a 66)), (4, .int p3)]) hx hb dX12_fewest_120 hl (by decide) rfl (fun ls hl => ?_)
          refine lv_iload hx hb dX12_fewest_122 (lv_at hl 1 rfl) ?_
          refine lv_istore (lv' := [(7, .int x_53), (6, .int r_64), (5, .int x_53), (0, .ref (a 66)), (4, .int p3)]) hx hb dX12_fewest_124 hl (by decide) rfl (fun ls hl => ?_)
          refine lv_iload hx hb dX12_fewest_126 (lv_at hl 4 rfl) ?_
          refine lv_istore (lv' := [(8, .int p3), (7, .int x_53), (6, .int r_64), (5, .int x_53), (0, .ref (a 66)), (4, .int p3)]) hx hb dX12_fewest_128 hl (by decide) rfl (fun ls hl => ?_)
          refine lv_aload_n hx hb dX12_fewest_130 rfl (lv_at hl 4 rfl) ?_
          refine lv_iload hx hb dX12_fewest_131 (lv_at hl 1 rfl) ?_
          have g_72 : (G_65.1 66 66).toInt = 0 := by rw [show G_65.1 66 66 = 0 from ((hq_66.i 66 66 (by decide) (by decide)).trans ((hq_49.i 66 66 (by decide) (by decide)).trans ((hq_41.i 66 66 (by decide) (by decide)).trans ((hq_25.i 66 66 (by decide) (by decide)).trans ((hq_17.i 66 66 (by decide) (by decide)).trans ((hq_8.i 66 66 (by decide) (by decide)).trans (gp_eq eG_1)))))))]; rfl
          have g_73 : (G_65.1 66 66).toInt = 0 := by rw [show G_65.1 66 66 = 0 from ((hq_66.i 66 66 (by decide) (by decide)).trans ((hq_49.i 66 66 (by decide) (by decide)).trans ((hq_41.i 66 66 (by decide) (by decide)).trans ((hq_25.i 66 66 (by decide) (by decide)).trans ((hq_17.i 66 66 (by decide) (by decide)).trans ((hq_8.i 66 66 (by decide) (by decide)).trans (gp_eq eG_1)))))))]; rfl
          refine S_callv (va_runV (As := [.int x_53]) (rest := []) ⟨hx, hb, hml, hown, hts⟩ (n_lay l D k A a z G_65 x_53 (by omega)) (cwV 1 hts (gd_V hgd m1866 m1868 m97 m131 m1869) rfl rfl rfl (by decide +kernel) ⟨Nat.le_of_ble_eq_true rfl, Nat.le_of_ble_eq_true rfl⟩) (pre_V hW hB_G_65 hK hZ hS kd_66 rfl) rfl rfl hl.1 rfl (lv_room (Nat.le_of_ble_eq_true rfl)) dX12_fewest_133 ⟨Nat.le_of_ble_eq_true rfl, Nat.le_of_ble_eq_true rfl⟩) hS (fun G_75 H locs hpo hW hS => ?_)
          have hX_78 : Q_lay x_53 G_65 G_75 := hpo
          obtain ⟨hB_G_75, hq_76, hp_77, -⟩ := hpo
          have hF := hF.call hq_76 (by decide) (by decide)
          have b_79 : 0 ≤ (G_75.1 66 66).toInt ∧ (G_75.1 66 66).toInt ≤ 400 := hB_G_75.i 66 66 rfl rfl
          have hf_80 : FWp (G_40.1 99) x_53.toInt p3.toInt (r_64.toInt - (G_75.1 66 66).toInt + 1) := ⟨0, Or.inl rfl, by omega⟩
          refine loop_N (Inv := fun n H locs ls => ∃ (G_81 : GS) (x_85 : Int32) (x_86 : Int32), (n : Int) = r_64.toInt - (G_81.1 66 66).toInt ∧ (0 ≤ x_85.toInt ∧ x_85.toInt ≤ 2) ∧ (0 ≤ x_86.toInt ∧ x_86.toInt ≤ 399) ∧ (1 ≤ (G_81.1 66 66).toInt ∧ (G_81.1 66 66).toInt ≤ x_86.toInt + 1 ∧ (G_81.1 66 66).toInt ≤ r_64.toInt) ∧ (FWp (G_40.1 99) x_86.toInt x_85.toInt (r_64.toInt - (G_81.1 66 66).toInt + 1)) ∧ Rc (St_n_fewest_2 r_64 G_24 G_40) (p3, x_53, G_75) (x_85, x_86, G_81) ∧ Wd D k A a G_81 H ∧ Bd G_81 ∧ Fr [100, 76, 97, 98, 99] [(66, 59), (66, 60), (66, 61), (66, 62), (66, 63), (66, 66)] G G_81 ∧ Fr [100] [(66, 66)] G_75 G_81 ∧ va_S A s.heap H locs ∧ lv_has ls 11 [(8, .int x_85), (7, .int x_86), (6, .int r_64), (0, .ref (a 66))]) (fun n_84 H locs ls ih_83 hI => ?_) (r_64.toInt - (G_75.1 66 66).toInt : Int).toNat ⟨G_75, p3, x_53, (Int.toNat_of_nonneg (by omega)), ⟨by omega, by omega⟩, ⟨by omega, by omega⟩, (by omega), (by assumption), Rc.rf, hW, hB_G_75, hF, Fr.rf, hS, lv_sub hl [0, 1, 2, 4] rfl⟩
          obtain ⟨G_81, x_85, x_86, hn_92, f_88, f_89, f_90, f_91, hX_87, hW, hB_G_81, hF, hq_82, hS, hl⟩ := hI
          have b_93 : 0 ≤ (G_81.1 66 66).toInt ∧ (G_81.1 66 66).toInt ≤ 400 := hB_G_81.i 66 66 rfl rfl
          refine lv_aload_n hx hb dX12_fewest_136 rfl (lv_at hl 3 rfl) ?_
          refine S_getI (v := (G_81.1 66 66)) (C := RX12) (T := TX12) (N := 89) hx hb hg iX12 hown hK hW kd_66 rfl 66 (by decide) (hg (Cond.fieldLink RX12 446 "SlabWalkModel" "lain" "I") m1380) (fun _ h9 => h9) rfl rfl dX12_fewest_137 ?_
          refine lv_iload hx hb dX12_fewest_140 (lv_at hl 2 rfl) ?_
          refine lv_icmp_ge (tgt := 243) hx hb dX12_fewest_142 (by decide) (fun c_94 => ?_) (fun c_94 => ?_)
          · have c_94 : r_64.toInt ≤ (G_81.1 66 66).toInt := xI_le rfl rfl c_94
            refine lv_iload hx hb dX12_fewest_243 (lv_at hl 2 rfl) ?_
            exact W.iret (v := r_64) hx hb hr (fun t ht _ => ⟨⟨r_64, G_81, rfl, (Q_fewest_mk ⟨hB_G_81, hF, ⟨G_1, hB_G_1, (Fr.rf.put eG_1 (Or.inr (by decide))), (gp_eq eG_1), ⟨r_6, G_7, hX_10, (Or.inr ⟨c_12, ⟨r_15, G_16, hX_19, (Or.inr ⟨c_21, ⟨G_24, hX_27, ⟨G_40, hX_43, ⟨x_52, x_53, G_48, hX_54, f_57, f_58, f_59, hB_G_48, hq_49, ⟨c_61, (Or.inl ⟨c_62, ⟨r_64, G_65, hX_68, ⟨G_75, hX_78, ⟨x_85, x_86, G_81, hX_87, f_88, f_89, f_90, f_91, hB_G_81, hq_82, ⟨c_94, ⟨rfl, rfl⟩⟩⟩⟩⟩⟩)⟩⟩⟩⟩⟩)⟩⟩)⟩⟩⟩), wd_t ht hW⟩, hS.F ht⟩) hS.2.2 dX12_fewest_245
          · have c_94 : (G_81.1 66 66).toInt < r_64.toInt := xI_nle rfl rfl c_94
            refine lv_iload hx hb dX12_fewest_145 (lv_at hl 2 rfl) ?_
            refine lv_aload_n hx hb dX12_fewest_147 rfl (lv_at hl 3 rfl) ?_
            refine S_getI (v := (G_81.1 66 66)) (C := RX12) (T := TX12) (N := 89) hx hb hg iX12 hown hK hW kd_66 rfl 66 (by decide) (hg (Cond.fieldLink RX12 446 "SlabWalkModel" "lain" "I") m1380) (fun _ h9 => h9) rfl rfl dX12_fewest_148 ?_
            refine lv_isub hx hb dX12_fewest_151 ?_
            refine lv_topi (fun y_95 ey_95 => ?_)
            have ty_95 : y_95.toInt = r_64.toInt - (G_81.1 66 66).toInt := xI_sub rfl rfl ey_95 (by omega) (by omega)
            refine lv_istore (lv' := [(9, .int y_95), (8, .int x_85), (7, .int x_86), (6, .int r_64), (0, .ref (a 66))]) hx hb dX12_fewest_152 hl (by decide) rfl (fun ls hl => ?_)
            refine lv_iload hx hb dX12_fewest_154 (lv_at hl 1 rfl) ?_
            refine lv_if_ne (tgt := 163) hx hb dX12_fewest_156 (by decide) (fun c_96 => ?_) (fun c_96 => ?_)
            · have c_96 : x_85.toInt ≠ 0 := xI_ne rfl rfl c_96
              refine lv_iconst (v := 3) hx hb dX12_fewest_163 (by decide) ?_
              refine lv_iload hx hb dX12_fewest_164 (lv_at hl 1 rfl) ?_
              refine lv_isub hx hb dX12_fewest_166 ?_
              refine lv_topi (fun y_97 ey_97 => ?_)
              have ty_97 : y_97.toInt = 3 - x_85.toInt := xI_sub rfl rfl ey_97 (by omega) (by omega)
              refine lv_istore (lv' := [(8, .int y_97), (9, .int y_95), (7, .int x_86), (6, .int r_64), (0, .ref (a 66))]) hx hb dX12_fewest_167 hl (by decide) rfl (fun ls hl => ?_)
              refine lv_aload_n hx hb dX12_fewest_169 rfl (lv_at hl 4 rfl) ?_
              refine S_getI (v := (G_24.1 66 61)) (C := RX12) (T := TX12) (N := 89) hx hb hg iX12 hown hK hW kd_66 rfl 61 (by decide) (hg (Cond.fieldLink RX12 475 "SlabWalkModel" "least" "I") m1375) (fun _ h9 => h9) rfl ((hq_82.i 66 61 (by decide) (by decide)).trans ((hq_76.i 66 61 (by decide) (by decide)).trans ((hq_66.i 66 61 (by decide) (by decide)).trans ((hq_49.i 66 61 (by decide) (by decide)).trans ((hq_41.i 66 61 (by decide) (by decide)).trans (rfl)))))) dX12_fewest_170 ?_
              obtain ⟨l9, hl9, he9⟩ := (show FWp (G_40.1 99) x_86.toInt x_85.toInt (r_64.toInt - (G_81.1 66 66).toInt + 1) by assumption)
              obtain ⟨b9, hb1, hb2, hb3, hb4⟩ := (PRG_ex hp_42 (x := x_86.toInt) (l := l9) (i := x_85.toInt) (by omega) (by omega) hl9 (by omega) (by omega)).2 (by omega) (by omega)
              have hb5 := lw400 hB_G_40 (by omega) _ (by omega) hb3
              rw [hrow98] at hb3
              have hfl := flI_v x_85.toInt
              have htr := trI_v b9 (G_40.1 66 62).toInt
              have hlz : (G_24.1 66 61).toInt = (G_40.1 66 61).toInt := by omega
              refine lv_istore (lv' := [(10, .int (G_24.1 66 61)), (8, .int y_97), (9, .int y_95), (7, .int x_86), (6, .int r_64), (0, .ref (a 66))]) hx hb dX12_fewest_173 hl (by decide) rfl (fun ls hl => ?_)
              refine loop_N (Inv := fun n H locs ls => ∃ (G_98 : GS) (x_102 : Int32), (n : Int) = b9 - x_102.toInt ∧ (0 ≤ x_102.toInt ∧ x_102.toInt ≤ 99) ∧ (x_102.toInt ≤ b9) ∧ ((G_40.1 66 61).toInt ≤ x_102.toInt) ∧ Rc (St_n_fewest_3 x_86 y_95 y_97 G_24 G_40) ((G_24.1 66 61), G_81) (x_102, G_98) ∧ Wd D k A a G_98 H ∧ Bd G_98 ∧ Fr [100, 76, 97, 98, 99] [(66, 59), (66, 60), (66, 61), (66, 62), (66, 63), (66, 66)] G G_98 ∧ Fr [] [] G_81 G_98 ∧ va_S A s.heap H locs ∧ lv_has ls 11 [(10, .int x_102), (8, .int y_97), (9, .int y_95), (7, .int x_86), (6, .int r_64), (0, .ref (a 66))]) (fun n_101 H locs ls ih_100 hI => ?_) (b9 - (G_24.1 66 61).toInt : Int).toNat ⟨G_81, (G_24.1 66 61), (Int.toNat_of_nonneg (by omega)), ⟨by omega, by omega⟩, (by omega), (by omega), Rc.rf, hW, hB_G_81, hF, Fr.rf, hS, lv_sub hl [0, 1, 2, 3, 4, 5] rfl⟩
              obtain ⟨G_98, x_102, hn_107, f_104, f_105, f_106, hX_103, hW, hB_G_98, hF, hq_99, hS, hl⟩ := hI
              refine lv_aload_n hx hb dX12_fewest_175 rfl (lv_at hl 5 rfl) ?_
              refine S_getR (n := 98) (C := RX12) (T := TX12) (N := 89) hx hb hg iX12 hown hK hW kd_66 rfl 58 (by decide) (hg (Cond.fieldLink RX12 115 "SlabWalkModel" "lawful" "[Z") m1372) (fun _ h9 => h9) rfl dX12_fewest_176 ?_
              refine lv_iload hx hb dX12_fewest_179 (lv_at hl 3 rfl) ?_
              refine lv_iload hx hb dX12_fewest_181 (lv_at hl 0 rfl) ?_
              refine lv_iadd hx hb dX12_fewest_183 ?_
              refine lv_topi (fun y_108 ey_108 => ?_)
              have ty_108 : y_108.toInt = x_86.toInt + x_102.toInt := xI_add rfl rfl ey_108 (by omega) (by omega)
              refine S_zald hx hb hK hW kd_98 (vin (by omega) (by omega)) dX12_fewest_184 (fun y_109 ey_109 => ?_)
              have ty_109 := hB_G_98.law ey_109
              have u_110 : y_109.toInt = (G_24.1 98 y_108.toNatClampNeg).toInt := congrArg Int32.toInt (ey_109.trans (((hq_99.ri 98 (by decide) (by decide) y_108.toNatClampNeg).trans ((hq_82.ri 98 (by decide) (by decide) y_108.toNatClampNeg).trans ((hq_76.ri 98 (by decide) (by decide) y_108.toNatClampNeg).trans ((hq_66.ri 98 (by decide) (by decide) y_108.toNatClampNeg).trans ((hq_49.ri 98 (by decide) (by decide) y_108.toNatClampNeg).trans (hq_41.ri 98 (by decide) (by decide) y_108.toNatClampNeg))))))))
              have u_111 : x_102.toInt = b9 → y_109.toInt = 1 := fun q => (lw_iff (L := G_24.1 98) (x := y_108) (y := y_109) (X := x_86.toInt + b9) (by omega) (by omega)).mp hb3
              refine lv_if_eq (tgt := 221) hx hb dX12_fewest_185 (by decide) (fun c_112 => ?_) (fun c_112 => ?_)
              · have c_112 : y_109.toInt = 0 := xI_eq rfl rfl c_112
                obtain ⟨y_113, ey_113⟩ : ∃ q, q = x_102 + 1 := ⟨_, rfl⟩
                have ty_113 : y_113.toInt = x_102.toInt + 1 := xI_add rfl rfl ey_113 (by omega) (by omega)
                refine lv_iinc (v := y_113) (lv' := [(10, .int y_113), (8, .int y_97), (9, .int y_95), (7, .int x_86), (6, .int r_64), (0, .ref (a 66))]) hx hb dX12_fewest_221 hl (k := 0) rfl (by rw [ey_113]; rfl) (by decide) rfl (fun ls hl => ?_)
                refine lv_goto (tgt := 175) hx hb dX12_fewest_224 (by decide) ?_
                exact ih_100 (b9 - y_113.toInt : Int).toNat (by omega) _ _ _ ⟨G_98, y_113, (Int.toNat_of_nonneg (by omega)), ⟨by omega, by omega⟩, (by omega), (by omega), (hX_103.st (St_n_fewest_3_mk ⟨x_102, G_98, y_113, G_98, rfl, rfl, f_104, f_106, hB_G_98, ⟨y_108, ty_108, ⟨y_109, ey_109, (Or.inl ⟨c_112, ⟨y_113, ty_113, ⟨rfl, rfl⟩⟩⟩)⟩⟩⟩)), hW, hB_G_98, hF, (Fr.rf.call hq_99 (by decide) (by decide)), hS, lv_sub hl [0, 1, 2, 3, 4, 5] rfl⟩
              · have c_112 : y_109.toInt ≠ 0 := xI_ne rfl rfl c_112
                refine lv_aload_n hx hb dX12_fewest_188 rfl (lv_at hl 5 rfl) ?_
                refine lv_iload hx hb dX12_fewest_189 (lv_at hl 3 rfl) ?_
                refine lv_iload hx hb dX12_fewest_191 (lv_at hl 0 rfl) ?_
                refine lv_iadd hx hb dX12_fewest_193 ?_
                refine lv_topi (fun y_114 ey_114 => ?_)
                have ty_114 : y_114.toInt = x_86.toInt + x_102.toInt := xI_add rfl rfl ey_114 (by omega) (by omega)
                refine lv_iload hx hb dX12_fewest_194 (lv_at hl 0 rfl) ?_
                refine lv_aload_n hx hb dX12_fewest_196 rfl (lv_at hl 5 rfl) ?_
                refine S_getI (v := (G_24.1 66 62)) (C := RX12) (T := TX12) (N := 89) hx hb hg iX12 hown hK hW kd_66 rfl 62 (by decide) (hg (Cond.fieldLink RX12 478 "SlabWalkModel" "most" "I") m1376) (fun _ h9 => h9) rfl ((hq_99.i 66 62 (by decide) (by decide)).trans ((hq_82.i 66 62 (by decide) (by decide)).trans ((hq_76.i 66 62 (by decide) (by decide)).trans ((hq_66.i 66 62 (by decide) (by decide)).trans ((hq_49.i 66 62 (by decide) (by decide)).trans ((hq_41.i 66 62 (by decide) (by decide)).trans (rfl))))))) dX12_fewest_197 ?_
                refine lv_icmp_le (tgt := 207) hx hb dX12_fewest_200 (by decide) (fun c_115 => ?_) (fun c_115 => ?_)
                · have c_115 : x_102.toInt ≤ (G_24.1 66 62).toInt := xI_le rfl rfl c_115
                  refine lv_iconst (v := 0) hx hb dX12_fewest_207 (by decide) ?_
                  have qc_116 : (0 : Int32).toInt = 0 := rfl
                  refine S_calli (va_runS (As := [.int 0]) (rest := [.int y_114, .ref (a 66)]) ⟨hx, hb, hml, hown, hts⟩ (n_truth l D k A a z G_98 0 ⟨by decide, by decide⟩) (va_cwS 1 hts (gd_S hgd m1788 m1789 m131 m1790) rfl rfl rfl (by decide +kernel) ⟨Nat.le_of_ble_eq_true rfl, Nat.le_of_ble_eq_true rfl⟩) (pre_S hW hB_G_98 hK hZ hS) rfl rfl hl.1 rfl (lv_room (Nat.le_of_ble_eq_true rfl)) dX12_fewest_208 ⟨Nat.le_of_ble_eq_true rfl, Nat.le_of_ble_eq_true rfl⟩) hS (fun r_117 G_118 H locs hpo hW hS => ?_)
                  have hX_121 : Q_truth 0 G_98 r_117 G_118 := hpo
                  obtain ⟨hB_G_118, hq_119, f_122, hp_120, -⟩ := hpo
                  have hF := hF.call hq_119 (by decide) (by decide)
                  refine lv_iload hx hb dX12_fewest_211 (lv_at hl 1 rfl) ?_
                  refine S_calli (va_runV (As := [.int y_114, .int r_117, .int y_97]) (rest := []) ⟨hx, hb, hml, hown, hts⟩ (n_needOf l D k A a z G_118 y_114 r_117 y_97 ⟨by omega, by omega⟩ ⟨by omega, by omega⟩ ⟨by omega, by omega⟩) (cwV 3 hts (gd_V hgd m1859 m1861 m96 m131 m1862) rfl rfl rfl (by decide +kernel) ⟨Nat.le_of_ble_eq_true rfl, Nat.le_of_ble_eq_true rfl⟩) (pre_V hW hB_G_118 hK hZ hS kd_66 rfl) rfl rfl hl.1 rfl (lv_room (Nat.le_of_ble_eq_true rfl)) dX12_fewest_213 ⟨Nat.le_of_ble_eq_true rfl, Nat.le_of_ble_eq_true rfl⟩) hS (fun r_123 G_124 H locs hpo hW hS => ?_)
                  have hX_127 : Q_needOf y_114 r_117 y_97 G_118 r_123 G_124 := hpo
                  obtain ⟨hB_G_124, hq_125, f_128, hp_126, -⟩ := hpo
                  have hF := hF.call hq_125 (by decide) (by decide)
                  have hm_129 : r_123.toInt = ndv (G_40.1 99) y_114.toInt r_117.toInt y_97.toInt := hp_126.trans (ndv_eq3 (show G_118.1 99 = G_40.1 99 from (funext fun j => ((fun (j : Nat) (_ : True) => ((hq_119.ri 99 (by decide) (by decide) j).trans ((hq_99.ri 99 (by decide) (by decide) j).trans ((hq_82.ri 99 (by decide) (by decide) j).trans ((hq_76.ri 99 (by decide) (by decide) j).trans ((hq_66.ri 99 (by decide) (by decide) j).trans (hq_49.ri 99 (by decide) (by decide) j)))))))) j trivial)) rfl rfl rfl)
                  have u_130 := PRG_1 hp_42 (x := y_114.toInt) (l := r_117.toInt) (i := y_97.toInt) (by omega) (by omega) (by omega) (by omega) (by omega)
                  have u_131 : x_102.toInt = b9 → r_123.toInt = y_95.toInt := fun q => (hm_129.trans ((ndv_eq3 rfl (by omega) (by omega) (by omega)).trans hb4)).trans (by omega)
                  refine lv_iload hx hb dX12_fewest_216 (lv_at hl 2 rfl) ?_
                  refine lv_icmp_eq (tgt := 227) hx hb dX12_fewest_218 (by decide) (fun c_132 => ?_) (fun c_132 => ?_)
                  · have c_132 : r_123.toInt = y_95.toInt := xI_eq rfl rfl c_132
                    refine lv_iload hx hb dX12_fewest_227 (lv_at hl 3 rfl) ?_
                    refine lv_iload hx hb dX12_fewest_229 (lv_at hl 0 rfl) ?_
                    refine lv_iadd hx hb dX12_fewest_231 ?_
                    refine lv_topi (fun y_133 ey_133 => ?_)
                    have ty_133 : y_133.toInt = x_86.toInt + x_102.toInt := xI_add rfl rfl ey_133 (by omega) (by omega)
                    refine lv_istore (lv' := [(7, .int y_133), (10, .int x_102), (8, .int y_97), (9, .int y_95), (6, .int r_64), (0, .ref (a 66))]) hx hb dX12_fewest_232 hl (by decide) rfl (fun ls hl => ?_)
                    refine lv_aload_n hx hb dX12_fewest_234 rfl (lv_at hl 5 rfl) ?_
                    refine lv_iload hx hb dX12_fewest_235 (lv_at hl 0 rfl) ?_
                    have g_134 : (G_124.1 66 66).toInt = (G_81.1 66 66).toInt := by rw [show G_124.1 66 66 = (G_81.1 66 66) from ((hq_125.i 66 66 (by decide) (by decide)).trans ((hq_119.i 66 66 (by decide) (by decide)).trans ((hq_99.i 66 66 (by decide) (by decide)).trans (rfl))))]
                    have g_135 : (G_124.1 66 66).toInt = (G_81.1 66 66).toInt := by rw [show G_124.1 66 66 = (G_81.1 66 66) from ((hq_125.i 66 66 (by decide) (by decide)).trans ((hq_119.i 66 66 (by decide) (by decide)).trans ((hq_99.i 66 66 (by decide) (by decide)).trans (rfl))))]
                    refine S_callv (va_runV (As := [.int y_133]) (rest := []) ⟨hx, hb, hml, hown, hts⟩ (n_lay l D k A a z G_124 y_133 (by omega)) (cwV 1 hts (gd_V hgd m1866 m1868 m97 m131 m1869) rfl rfl rfl (by decide +kernel) ⟨Nat.le_of_ble_eq_true rfl, Nat.le_of_ble_eq_true rfl⟩) (pre_V hW hB_G_124 hK hZ hS kd_66 rfl) rfl rfl hl.1 rfl (lv_room (Nat.le_of_ble_eq_true rfl)) dX12_fewest_237 ⟨Nat.le_of_ble_eq_true rfl, Nat.le_of_ble_eq_true rfl⟩) hS (fun G_137 H locs hpo hW hS => ?_)
                    have hX_140 : Q_lay y_133 G_124 G_137 := hpo
                    obtain ⟨hB_G_137, hq_138, hp_139, -⟩ := hpo
                    have hF := hF.call hq_138 (by decide) (by decide)
                    have b_141 : 0 ≤ (G_137.1 66 66).toInt ∧ (G_137.1 66 66).toInt ≤ 400 := hB_G_137.i 66 66 rfl rfl
                    have hf_142 : FWp (G_40.1 99) y_133.toInt y_97.toInt (r_64.toInt - (G_137.1 66 66).toInt + 1) := ⟨r_117.toInt, by omega, (ndv_eq3 rfl (by omega) rfl rfl).trans (hm_129.symm.trans (by omega))⟩
                    refine lv_goto (tgt := 136) hx hb dX12_fewest_240 (by decide) ?_
                    exact ih_83 (r_64.toInt - (G_137.1 66 66).toInt : Int).toNat (by omega) _ _ _ ⟨G_137, y_97, y_133, (Int.toNat_of_nonneg (by omega)), ⟨by omega, by omega⟩, ⟨by omega, by omega⟩, (by omega), (by assumption), (hX_87.st (St_n_fewest_2_mk ⟨x_85, x_86, G_81, y_97, y_133, G_137, rfl, rfl, f_88, f_89, f_90, f_91, hB_G_81, ⟨c_94, ⟨y_95, ty_95, (Or.inr ⟨c_96, ⟨y_97, ty_97, ⟨x_102, G_98, hX_103, f_104, f_106, hB_G_98, hq_99, ⟨y_108, ty_108, ⟨y_109, ey_109, ⟨c_112, ⟨y_114, ty_114, (Or.inl ⟨c_115, ⟨r_117, G_118, hX_121, ⟨r_123, G_124, hX_127, ⟨c_132, ⟨y_133, ty_133, ⟨G_137, hX_140, ⟨rfl, rfl, rfl⟩⟩⟩⟩⟩⟩⟩)⟩⟩⟩⟩⟩⟩⟩)⟩⟩⟩)), hW, hB_G_137, hF, (((((Fr.rf.call hq_82 (by decide) (by decide)).call hq_99 (by decide) (by decide)).call hq_119 (by decide) (by decide)).call hq_125 (by decide) (by decide)).call hq_138 (by decide) (by decide)), hS, lv_sub hl [2, 0, 4, 5] rfl⟩
                  · have c_132 : r_123.toInt ≠ y_95.toInt := xI_ne rfl rfl c_132
                    obtain ⟨y_143, ey_143⟩ : ∃ q, q = x_102 + 1 := ⟨_, rfl⟩
                    have ty_143 : y_143.toInt = x_102.toInt + 1 := xI_add rfl rfl ey_143 (by omega) (by omega)
                    refine lv_iinc (v := y_143) (lv' := [(10, .int y_143), (8, .int y_97), (9, .int y_95), (7, .int x_86), (6, .int r_64), (0, .ref (a 66))]) hx hb dX12_fewest_221 hl (k := 0) rfl (by rw [ey_143]; rfl) (by decide) rfl (fun ls hl => ?_)
                    refine lv_goto (tgt := 175) hx hb dX12_fewest_224 (by decide) ?_
                    exact ih_100 (b9 - y_143.toInt : Int).toNat (by omega) _ _ _ ⟨G_124, y_143, (Int.toNat_of_nonneg (by omega)), ⟨by omega, by omega⟩, (by omega), (by omega), (hX_103.st (St_n_fewest_3_mk ⟨x_102, G_98, y_143, G_124, rfl, rfl, f_104, f_106, hB_G_98, ⟨y_108, ty_108, ⟨y_109, ey_109, (Or.inr ⟨c_112, ⟨y_114, ty_114, (Or.inl ⟨c_115, ⟨r_117, G_118, hX_121, ⟨r_123, G_124, hX_127, ⟨c_132, ⟨y_143, ty_143, ⟨rfl, rfl⟩⟩⟩⟩⟩⟩)⟩⟩)⟩⟩⟩)), hW, hB_G_124, hF, (((Fr.rf.call hq_99 (by decide) (by decide)).call hq_119 (by decide) (by decide)).call hq_125 (by decide) (by decide)), hS, lv_sub hl [0, 1, 2, 3, 4, 5] rfl⟩
                · have c_115 : (G_24.1 66 62).toInt < x_102.toInt := xI_nle rfl rfl c_115
                  refine lv_iconst (v := 1) hx hb dX12_fewest_203 (by decide) ?_
                  refine lv_goto (tgt := 208) hx hb dX12_fewest_204 (by decide) ?_
                  have qc_144 : (1 : Int32).toInt = 1 := rfl
                  refine S_calli (va_runS (As := [.int 1]) (rest := [.int y_114, .ref (a 66)]) ⟨hx, hb, hml, hown, hts⟩ (n_truth l D k A a z G_98 1 ⟨by decide, by decide⟩) (va_cwS 1 hts (gd_S hgd m1788 m1789 m131 m1790) rfl rfl rfl (by decide +kernel) ⟨Nat.le_of_ble_eq_true rfl, Nat.le_of_ble_eq_true rfl⟩) (pre_S hW hB_G_98 hK hZ hS) rfl rfl hl.1 rfl (lv_room (Nat.le_of_ble_eq_true rfl)) dX12_fewest_208 ⟨Nat.le_of_ble_eq_true rfl, Nat.le_of_ble_eq_true rfl⟩) hS (fun r_145 G_146 H locs hpo hW hS => ?_)
                  have hX_149 : Q_truth 1 G_98 r_145 G_146 := hpo
                  obtain ⟨hB_G_146, hq_147, f_150, hp_148, -⟩ := hpo
                  have hF := hF.call hq_147 (by decide) (by decide)
                  refine lv_iload hx hb dX12_fewest_211 (lv_at hl 1 rfl) ?_
                  refine S_calli (va_runV (As := [.int y_114, .int r_145, .int y_97]) (rest := []) ⟨hx, hb, hml, hown, hts⟩ (n_needOf l D k A a z G_146 y_114 r_145 y_97 ⟨by omega, by omega⟩ ⟨by omega, by omega⟩ ⟨by omega, by omega⟩) (cwV 3 hts (gd_V hgd m1859 m1861 m96 m131 m1862) rfl rfl rfl (by decide +kernel) ⟨Nat.le_of_ble_eq_true rfl, Nat.le_of_ble_eq_true rfl⟩) (pre_V hW hB_G_146 hK hZ hS kd_66 rfl) rfl rfl hl.1 rfl (lv_room (Nat.le_of_ble_eq_true rfl)) dX12_fewest_213 ⟨Nat.le_of_ble_eq_true rfl, Nat.le_of_ble_eq_true rfl⟩) hS (fun r_151 G_152 H locs hpo hW hS => ?_)
                  have hX_155 : Q_needOf y_114 r_145 y_97 G_146 r_151 G_152 := hpo
                  obtain ⟨hB_G_152, hq_153, f_156, hp_154, -⟩ := hpo
                  have hF := hF.call hq_153 (by decide) (by decide)
                  have hm_157 : r_151.toInt = ndv (G_40.1 99) y_114.toInt r_145.toInt y_97.toInt := hp_154.trans (ndv_eq3 (show G_146.1 99 = G_40.1 99 from (funext fun j => ((fun (j : Nat) (_ : True) => ((hq_147.ri 99 (by decide) (by decide) j).trans ((hq_99.ri 99 (by decide) (by decide) j).trans ((hq_82.ri 99 (by decide) (by decide) j).trans ((hq_76.ri 99 (by decide) (by decide) j).trans ((hq_66.ri 99 (by decide) (by decide) j).trans (hq_49.ri 99 (by decide) (by decide) j)))))))) j trivial)) rfl rfl rfl)
                  have u_158 := PRG_1 hp_42 (x := y_114.toInt) (l := r_145.toInt) (i := y_97.toInt) (by omega) (by omega) (by omega) (by omega) (by omega)
                  have u_159 : x_102.toInt = b9 → r_151.toInt = y_95.toInt := fun q => (hm_157.trans ((ndv_eq3 rfl (by omega) (by omega) (by omega)).trans hb4)).trans (by omega)
                  refine lv_iload hx hb dX12_fewest_216 (lv_at hl 2 rfl) ?_
                  refine lv_icmp_eq (tgt := 227) hx hb dX12_fewest_218 (by decide) (fun c_160 => ?_) (fun c_160 => ?_)
                  · have c_160 : r_151.toInt = y_95.toInt := xI_eq rfl rfl c_160
                    refine lv_iload hx hb dX12_fewest_227 (lv_at hl 3 rfl) ?_
                    refine lv_iload hx hb dX12_fewest_229 (lv_at hl 0 rfl) ?_
                    refine lv_iadd hx hb dX12_fewest_231 ?_
                    refine lv_topi (fun y_161 ey_161 => ?_)
                    have ty_161 : y_161.toInt = x_86.toInt + x_102.toInt := xI_add rfl rfl ey_161 (by omega) (by omega)
                    refine lv_istore (lv' := [(7, .int y_161), (10, .int x_102), (8, .int y_97), (9, .int y_95), (6, .int r_64), (0, .ref (a 66))]) hx hb dX12_fewest_232 hl (by decide) rfl (fun ls hl => ?_)
                    refine lv_aload_n hx hb dX12_fewest_234 rfl (lv_at hl 5 rfl) ?_
                    refine lv_iload hx hb dX12_fewest_235 (lv_at hl 0 rfl) ?_
                    have g_162 : (G_152.1 66 66).toInt = (G_81.1 66 66).toInt := by rw [show G_152.1 66 66 = (G_81.1 66 66) from ((hq_153.i 66 66 (by decide) (by decide)).trans ((hq_147.i 66 66 (by decide) (by decide)).trans ((hq_99.i 66 66 (by decide) (by decide)).trans (rfl))))]
                    have g_163 : (G_152.1 66 66).toInt = (G_81.1 66 66).toInt := by rw [show G_152.1 66 66 = (G_81.1 66 66) from ((hq_153.i 66 66 (by decide) (by decide)).trans ((hq_147.i 66 66 (by decide) (by decide)).trans ((hq_99.i 66 66 (by decide) (by decide)).trans (rfl))))]
                    refine S_callv (va_runV (As := [.int y_161]) (rest := []) ⟨hx, hb, hml, hown, hts⟩ (n_lay l D k A a z G_152 y_161 (by omega)) (cwV 1 hts (gd_V hgd m1866 m1868 m97 m131 m1869) rfl rfl rfl (by decide +kernel) ⟨Nat.le_of_ble_eq_true rfl, Nat.le_of_ble_eq_true rfl⟩) (pre_V hW hB_G_152 hK hZ hS kd_66 rfl) rfl rfl hl.1 rfl (lv_room (Nat.le_of_ble_eq_true rfl)) dX12_fewest_237 ⟨Nat.le_of_ble_eq_true rfl, Nat.le_of_ble_eq_true rfl⟩) hS (fun G_165 H locs hpo hW hS => ?_)
                    have hX_168 : Q_lay y_161 G_152 G_165 := hpo
                    obtain ⟨hB_G_165, hq_166, hp_167, -⟩ := hpo
                    have hF := hF.call hq_166 (by decide) (by decide)
                    have b_169 : 0 ≤ (G_165.1 66 66).toInt ∧ (G_165.1 66 66).toInt ≤ 400 := hB_G_165.i 66 66 rfl rfl
                    have hf_170 : FWp (G_40.1 99) y_161.toInt y_97.toInt (r_64.toInt - (G_165.1 66 66).toInt + 1) := ⟨r_145.toInt, by omega, (ndv_eq3 rfl (by omega) rfl rfl).trans (hm_157.symm.trans (by omega))⟩
                    refine lv_goto (tgt := 136) hx hb dX12_fewest_240 (by decide) ?_
                    exact ih_83 (r_64.toInt - (G_165.1 66 66).toInt : Int).toNat (by omega) _ _ _ ⟨G_165, y_97, y_161, (Int.toNat_of_nonneg (by omega)), ⟨by omega, by omega⟩, ⟨by omega, by omega⟩, (by omega), (by assumption), (hX_87.st (St_n_fewest_2_mk ⟨x_85, x_86, G_81, y_97, y_161, G_165, rfl, rfl, f_88, f_89, f_90, f_91, hB_G_81, ⟨c_94, ⟨y_95, ty_95, (Or.inr ⟨c_96, ⟨y_97, ty_97, ⟨x_102, G_98, hX_103, f_104, f_106, hB_G_98, hq_99, ⟨y_108, ty_108, ⟨y_109, ey_109, ⟨c_112, ⟨y_114, ty_114, (Or.inr ⟨c_115, ⟨r_145, G_146, hX_149, ⟨r_151, G_152, hX_155, ⟨c_160, ⟨y_161, ty_161, ⟨G_165, hX_168, ⟨rfl, rfl, rfl⟩⟩⟩⟩⟩⟩⟩)⟩⟩⟩⟩⟩⟩⟩)⟩⟩⟩)), hW, hB_G_165, hF, (((((Fr.rf.call hq_82 (by decide) (by decide)).call hq_99 (by decide) (by decide)).call hq_147 (by decide) (by decide)).call hq_153 (by decide) (by decide)).call hq_166 (by decide) (by decide)), hS, lv_sub hl [2, 0, 4, 5] rfl⟩
                  · have c_160 : r_151.toInt ≠ y_95.toInt := xI_ne rfl rfl c_160
                    obtain ⟨y_171, ey_171⟩ : ∃ q, q = x_102 + 1 := ⟨_, rfl⟩
                    have ty_171 : y_171.toInt = x_102.toInt + 1 := xI_add rfl rfl ey_171 (by omega) (by omega)
                    refine lv_iinc (v := y_171) (lv' := [(10, .int y_171), (8, .int y_97), (9, .int y_95), (7, .int x_86), (6, .int r_64), (0, .ref (a 66))]) hx hb dX12_fewest_221 hl (k := 0) rfl (by rw [ey_171]; rfl) (by decide) rfl (fun ls hl => ?_)
                    refine lv_goto (tgt := 175) hx hb dX12_fewest_224 (by decide) ?_
                    exact ih_100 (b9 - y_171.toInt : Int).toNat (by omega) _ _ _ ⟨G_152, y_171, (Int.toNat_of_nonneg (by omega)), ⟨by omega, by omega⟩, (by omega), (by omega), (hX_103.st (St_n_fewest_3_mk ⟨x_102, G_98, y_171, G_152, rfl, rfl, f_104, f_106, hB_G_98, ⟨y_108, ty_108, ⟨y_109, ey_109, (Or.inr ⟨c_112, ⟨y_114, ty_114, (Or.inr ⟨c_115, ⟨r_145, G_146, hX_149, ⟨r_151, G_152, hX_155, ⟨c_160, ⟨y_171, ty_171, ⟨rfl, rfl⟩⟩⟩⟩⟩⟩)⟩⟩)⟩⟩⟩)), hW, hB_G_152, hF, (((Fr.rf.call hq_99 (by decide) (by decide)).call hq_147 (by decide) (by decide)).call hq_153 (by decide) (by decide)), hS, lv_sub hl [0, 1, 2, 3, 4, 5] rfl⟩
            · have c_96 : x_85.toInt = 0 := xI_eq rfl rfl c_96
              refine lv_iconst (v := 0) hx hb dX12_fewest_159 (by decide) ?_
              refine lv_goto (tgt := 167) hx hb dX12_fewest_160 (by decide) ?_
              refine lv_istore (lv' := [(8, .int 0), (9, .int y_95), (7, .int x_86), (6, .int r_64), (0, .ref (a 66))]) hx hb dX12_fewest_167 hl (by decide) rfl (fun ls hl => ?_)
              refine lv_aload_n hx hb dX12_fewest_169 rfl (lv_at hl 4 rfl) ?_
              refine S_getI (v := (G_24.1 66 61)) (C := RX12) (T := TX12) (N := 89) hx hb hg iX12 hown hK hW kd_66 rfl 61 (by decide) (hg (Cond.fieldLink RX12 475 "SlabWalkModel" "least" "I") m1375) (fun _ h9 => h9) rfl ((hq_82.i 66 61 (by decide) (by decide)).trans ((hq_76.i 66 61 (by decide) (by decide)).trans ((hq_66.i 66 61 (by decide) (by decide)).trans ((hq_49.i 66 61 (by decide) (by decide)).trans ((hq_41.i 66 61 (by decide) (by decide)).trans (rfl)))))) dX12_fewest_170 ?_
              obtain ⟨l9, hl9, he9⟩ := (show FWp (G_40.1 99) x_86.toInt x_85.toInt (r_64.toInt - (G_81.1 66 66).toInt + 1) by assumption)
              obtain ⟨b9, hb1, hb2, hb3, hb4⟩ := (PRG_ex hp_42 (x := x_86.toInt) (l := l9) (i := x_85.toInt) (by omega) (by omega) hl9 (by omega) (by omega)).2 (by omega) (by omega)
              have hb5 := lw400 hB_G_40 (by omega) _ (by omega) hb3
              rw [hrow98] at hb3
              have hfl := flI_v x_85.toInt
              have htr := trI_v b9 (G_40.1 66 62).toInt
              have hlz : (G_24.1 66 61).toInt = (G_40.1 66 61).toInt := by omega
              refine lv_istore (lv' := [(10, .int (G_24.1 66 61)), (8, .int 0), (9, .int y_95), (7, .int x_86), (6, .int r_64), (0, .ref (a 66))]) hx hb dX12_fewest_173 hl (by decide) rfl (fun ls hl => ?_)
              refine loop_N (Inv := fun n H locs ls => ∃ (G_172 : GS) (x_176 : Int32), (n : Int) = b9 - x_176.toInt ∧ (0 ≤ x_176.toInt ∧ x_176.toInt ≤ 99) ∧ (x_176.toInt ≤ b9) ∧ ((G_40.1 66 61).toInt ≤ x_176.toInt) ∧ Rc (St_n_fewest_4 x_86 y_95 G_24 G_40) ((G_24.1 66 61), G_81) (x_176, G_172) ∧ Wd D k A a G_172 H ∧ Bd G_172 ∧ Fr [100, 76, 97, 98, 99] [(66, 59), (66, 60), (66, 61), (66, 62), (66, 63), (66, 66)] G G_172 ∧ Fr [] [] G_81 G_172 ∧ va_S A s.heap H locs ∧ lv_has ls 11 [(10, .int x_176), (8, .int 0), (9, .int y_95), (7, .int x_86), (6, .int r_64), (0, .ref (a 66))]) (fun n_175 H locs ls ih_174 hI => ?_) (b9 - (G_24.1 66 61).toInt : Int).toNat ⟨G_81, (G_24.1 66 61), (Int.toNat_of_nonneg (by omega)), ⟨by omega, by omega⟩, (by omega), (by omega), Rc.rf, hW, hB_G_81, hF, Fr.rf, hS, lv_sub hl [0, 1, 2, 3, 4, 5] rfl⟩
              obtain ⟨G_172, x_176, hn_181, f_178, f_179, f_180, hX_177, hW, hB_G_172, hF, hq_173, hS, hl⟩ := hI
              refine lv_aload_n hx hb dX12_fewest_175 rfl (lv_at hl 5 rfl) ?_
              refine S_getR (n := 98) (C := RX12) (T := TX12) (N := 89) hx hb hg iX12 hown hK hW kd_66 rfl 58 (by decide) (hg (Cond.fieldLink RX12 115 "SlabWalkModel" "lawful" "[Z") m1372) (fun _ h9 => h9) rfl dX12_fewest_176 ?_
              refine lv_iload hx hb dX12_fewest_179 (lv_at hl 3 rfl) ?_
              refine lv_iload hx hb dX12_fewest_181 (lv_at hl 0 rfl) ?_
              refine lv_iadd hx hb dX12_fewest_183 ?_
              refine lv_topi (fun y_182 ey_182 => ?_)
              have ty_182 : y_182.toInt = x_86.toInt + x_176.toInt := xI_add rfl rfl ey_182 (by omega) (by omega)
              refine S_zald hx hb hK hW kd_98 (vin (by omega) (by omega)) dX12_fewest_184 (fun y_183 ey_183 => ?_)
              have ty_183 := hB_G_172.law ey_183
              have u_184 : y_183.toInt = (G_24.1 98 y_182.toNatClampNeg).toInt := congrArg Int32.toInt (ey_183.trans (((hq_173.ri 98 (by decide) (by decide) y_182.toNatClampNeg).trans ((hq_82.ri 98 (by decide) (by decide) y_182.toNatClampNeg).trans ((hq_76.ri 98 (by decide) (by decide) y_182.toNatClampNeg).trans ((hq_66.ri 98 (by decide) (by decide) y_182.toNatClampNeg).trans ((hq_49.ri 98 (by decide) (by decide) y_182.toNatClampNeg).trans (hq_41.ri 98 (by decide) (by decide) y_182.toNatClampNeg))))))))
              have u_185 : x_176.toInt = b9 → y_183.toInt = 1 := fun q => (lw_iff (L := G_24.1 98) (x := y_182) (y := y_183) (X := x_86.toInt + b9) (by omega) (by omega)).mp hb3
              refine lv_if_eq (tgt := 221) hx hb dX12_fewest_185 (by decide) (fun c_186 => ?_) (fun c_186 => ?_)
              · have c_186 : y_183.toInt = 0 := xI_eq rfl rfl c_186
                obtain ⟨y_187, ey_187⟩ : ∃ q, q = x_176 + 1 := ⟨_, rfl⟩
                have ty_187 : y_187.toInt = x_176.toInt + 1 := xI_add rfl rfl ey_187 (by omega) (by omega)
                refine lv_iinc (v := y_187) (lv' := [(10, .int y_187), (8, .int 0), (9, .int y_95), (7, .int x_86), (6, .int r_64), (0, .ref (a 66))]) hx hb dX12_fewest_221 hl (k := 0) rfl (by rw [ey_187]; rfl) (by decide) rfl (fun ls hl => ?_)
                refine lv_goto (tgt := 175) hx hb dX12_fewest_224 (by decide) ?_
                exact ih_174 (b9 - y_187.toInt : Int).toNat (by omega) _ _ _ ⟨G_172, y_187, (Int.toNat_of_nonneg (by omega)), ⟨by omega, by omega⟩, (by omega), (by omega), (hX_177.st (St_n_fewest_4_mk ⟨x_176, G_172, y_187, G_172, rfl, rfl, f_178, f_180, hB_G_172, ⟨y_182, ty_182, ⟨y_183, ey_183, (Or.inl ⟨c_186, ⟨y_187, ty_187, ⟨rfl, rfl⟩⟩⟩)⟩⟩⟩)), hW, hB_G_172, hF, (Fr.rf.call hq_173 (by decide) (by decide)), hS, lv_sub hl [0, 1, 2, 3, 4, 5] rfl⟩
              · have c_186 : y_183.toInt ≠ 0 := xI_ne rfl rfl c_186
                refine lv_aload_n hx hb dX12_fewest_188 rfl (lv_at hl 5 rfl) ?_
                refine lv_iload hx hb dX12_fewest_189 (lv_at hl 3 rfl) ?_
                refine lv_iload hx hb dX12_fewest_191 (lv_at hl 0 rfl) ?_
                refine lv_iadd hx hb dX12_fewest_193 ?_
                refine lv_topi (fun y_188 ey_188 => ?_)
                have ty_188 : y_188.toInt = x_86.toInt + x_176.toInt := xI_add rfl rfl ey_188 (by omega) (by omega)
                refine lv_iload hx hb dX12_fewest_194 (lv_at hl 0 rfl) ?_
                refine lv_aload_n hx hb dX12_fewest_196 rfl (lv_at hl 5 rfl) ?_
                refine S_getI (v := (G_24.1 66 62)) (C := RX12) (T := TX12) (N := 89) hx hb hg iX12 hown hK hW kd_66 rfl 62 (by decide) (hg (Cond.fieldLink RX12 478 "SlabWalkModel" "most" "I") m1376) (fun _ h9 => h9) rfl ((hq_173.i 66 62 (by decide) (by decide)).trans ((hq_82.i 66 62 (by decide) (by decide)).trans ((hq_76.i 66 62 (by decide) (by decide)).trans ((hq_66.i 66 62 (by decide) (by decide)).trans ((hq_49.i 66 62 (by decide) (by decide)).trans ((hq_41.i 66 62 (by decide) (by decide)).trans (rfl))))))) dX12_fewest_197 ?_
                refine lv_icmp_le (tgt := 207) hx hb dX12_fewest_200 (by decide) (fun c_189 => ?_) (fun c_189 => ?_)
                · have c_189 : x_176.toInt ≤ (G_24.1 66 62).toInt := xI_le rfl rfl c_189
                  refine lv_iconst (v := 0) hx hb dX12_fewest_207 (by decide) ?_
                  have qc_190 : (0 : Int32).toInt = 0 := rfl
                  refine S_calli (va_runS (As := [.int 0]) (rest := [.int y_188, .ref (a 66)]) ⟨hx, hb, hml, hown, hts⟩ (n_truth l D k A a z G_172 0 ⟨by decide, by decide⟩) (va_cwS 1 hts (gd_S hgd m1788 m1789 m131 m1790) rfl rfl rfl (by decide +kernel) ⟨Nat.le_of_ble_eq_true rfl, Nat.le_of_ble_eq_true rfl⟩) (pre_S hW hB_G_172 hK hZ hS) rfl rfl hl.1 rfl (lv_room (Nat.le_of_ble_eq_true rfl)) dX12_fewest_208 ⟨Nat.le_of_ble_eq_true rfl, Nat.le_of_ble_eq_true rfl⟩) hS (fun r_191 G_192 H locs hpo hW hS => ?_)
                  have hX_195 : Q_truth 0 G_172 r_191 G_192 := hpo
                  obtain ⟨hB_G_192, hq_193, f_196, hp_194, -⟩ := hpo
                  have hF := hF.call hq_193 (by decide) (by decide)
                  refine lv_iload hx hb dX12_fewest_211 (lv_at hl 1 rfl) ?_
                  have qc_197 : (0 : Int32).toInt = 0 := rfl
                  refine S_calli (va_runV (As := [.int y_188, .int r_191, .int 0]) (rest := []) ⟨hx, hb, hml, hown, hts⟩ (n_needOf l D k A a z G_192 y_188 r_191 0 ⟨by omega, by omega⟩ ⟨by omega, by omega⟩ ⟨by decide, by decide⟩) (cwV 3 hts (gd_V hgd m1859 m1861 m96 m131 m1862) rfl rfl rfl (by decide +kernel) ⟨Nat.le_of_ble_eq_true rfl, Nat.le_of_ble_eq_true rfl⟩) (pre_V hW hB_G_192 hK hZ hS kd_66 rfl) rfl rfl hl.1 rfl (lv_room (Nat.le_of_ble_eq_true rfl)) dX12_fewest_213 ⟨Nat.le_of_ble_eq_true rfl, Nat.le_of_ble_eq_true rfl⟩) hS (fun r_198 G_199 H locs hpo hW hS => ?_)
                  have hX_202 : Q_needOf y_188 r_191 0 G_192 r_198 G_199 := hpo
                  obtain ⟨hB_G_199, hq_200, f_203, hp_201, -⟩ := hpo
                  have hF := hF.call hq_200 (by decide) (by decide)
                  have hm_204 : r_198.toInt = ndv (G_40.1 99) y_188.toInt r_191.toInt 0 := hp_201.trans (ndv_eq3 (show G_192.1 99 = G_40.1 99 from (funext fun j => ((fun (j : Nat) (_ : True) => ((hq_193.ri 99 (by decide) (by decide) j).trans ((hq_173.ri 99 (by decide) (by decide) j).trans ((hq_82.ri 99 (by decide) (by decide) j).trans ((hq_76.ri 99 (by decide) (by decide) j).trans ((hq_66.ri 99 (by decide) (by decide) j).trans (hq_49.ri 99 (by decide) (by decide) j)))))))) j trivial)) rfl rfl rfl)
                  have u_205 := PRG_1 hp_42 (x := y_188.toInt) (l := r_191.toInt) (i := 0) (by omega) (by omega) (by omega) (by omega) (by omega)
                  have u_206 : x_176.toInt = b9 → r_198.toInt = y_95.toInt := fun q => (hm_204.trans ((ndv_eq3 rfl (by omega) (by omega) (by omega)).trans hb4)).trans (by omega)
                  refine lv_iload hx hb dX12_fewest_216 (lv_at hl 2 rfl) ?_
                  refine lv_icmp_eq (tgt := 227) hx hb dX12_fewest_218 (by decide) (fun c_207 => ?_) (fun c_207 => ?_)
                  · have c_207 : r_198.toInt = y_95.toInt := xI_eq rfl rfl c_207
                    refine lv_iload hx hb dX12_fewest_227 (lv_at hl 3 rfl) ?_
                    refine lv_iload hx hb dX12_fewest_229 (lv_at hl 0 rfl) ?_
                    refine lv_iadd hx hb dX12_fewest_231 ?_
                    refine lv_topi (fun y_208 ey_208 => ?_)
                    have ty_208 : y_208.toInt = x_86.toInt + x_176.toInt := xI_add rfl rfl ey_208 (by omega) (by omega)
                    refine lv_istore (lv' := [(7, .int y_208), (10, .int x_176), (8, .int 0), (9, .int y_95), (6, .int r_64), (0, .ref (a 66))]) hx hb dX12_fewest_232 hl (by decide) rfl (fun ls hl => ?_)
                    refine lv_aload_n hx hb dX12_fewest_234 rfl (lv_at hl 5 rfl) ?_
                    refine lv_iload hx hb dX12_fewest_235 (lv_at hl 0 rfl) ?_
                    have g_209 : (G_199.1 66 66).toInt = (G_81.1 66 66).toInt := by rw [show G_199.1 66 66 = (G_81.1 66 66) from ((hq_200.i 66 66 (by decide) (by decide)).trans ((hq_193.i 66 66 (by decide) (by decide)).trans ((hq_173.i 66 66 (by decide) (by decide)).trans (rfl))))]
                    have g_210 : (G_199.1 66 66).toInt = (G_81.1 66 66).toInt := by rw [show G_199.1 66 66 = (G_81.1 66 66) from ((hq_200.i 66 66 (by decide) (by decide)).trans ((hq_193.i 66 66 (by decide) (by decide)).trans ((hq_173.i 66 66 (by decide) (by decide)).trans (rfl))))]
                    refine S_callv (va_runV (As := [.int y_208]) (rest := []) ⟨hx, hb, hml, hown, hts⟩ (n_lay l D k A a z G_199 y_208 (by omega)) (cwV 1 hts (gd_V hgd m1866 m1868 m97 m131 m1869) rfl rfl rfl (by decide +kernel) ⟨Nat.le_of_ble_eq_true rfl, Nat.le_of_ble_eq_true rfl⟩) (pre_V hW hB_G_199 hK hZ hS kd_66 rfl) rfl rfl hl.1 rfl (lv_room (Nat.le_of_ble_eq_true rfl)) dX12_fewest_237 ⟨Nat.le_of_ble_eq_true rfl, Nat.le_of_ble_eq_true rfl⟩) hS (fun G_212 H locs hpo hW hS => ?_)
                    have hX_215 : Q_lay y_208 G_199 G_212 := hpo
                    obtain ⟨hB_G_212, hq_213, hp_214, -⟩ := hpo
                    have hF := hF.call hq_213 (by decide) (by decide)
                    have b_216 : 0 ≤ (G_212.1 66 66).toInt ∧ (G_212.1 66 66).toInt ≤ 400 := hB_G_212.i 66 66 rfl rfl
                    have hf_217 : FWp (G_40.1 99) y_208.toInt 0 (r_64.toInt - (G_212.1 66 66).toInt + 1) := ⟨r_191.toInt, by omega, (ndv_eq3 rfl (by omega) rfl rfl).trans (hm_204.symm.trans (by omega))⟩
                    refine lv_goto (tgt := 136) hx hb dX12_fewest_240 (by decide) ?_
                    have qc_218 : (0 : Int32).toInt = 0 := rfl
                    exact ih_83 (r_64.toInt - (G_212.1 66 66).toInt : Int).toNat (by omega) _ _ _ ⟨G_212, 0, y_208, (Int.toNat_of_nonneg (by omega)), ⟨by omega, by omega⟩, ⟨by omega, by omega⟩, (by omega), (by assumption), (hX_87.st (St_n_fewest_2_mk ⟨x_85, x_86, G_81, 0, y_208, G_212, rfl, rfl, f_88, f_89, f_90, f_91, hB_G_81, ⟨c_94, ⟨y_95, ty_95, (Or.inl ⟨c_96, ⟨x_176, G_172, hX_177, f_178, f_180, hB_G_172, hq_173, ⟨y_182, ty_182, ⟨y_183, ey_183, ⟨c_186, ⟨y_188, ty_188, (Or.inl ⟨c_189, ⟨r_191, G_192, hX_195, ⟨r_198, G_199, hX_202, ⟨c_207, ⟨y_208, ty_208, ⟨G_212, hX_215, ⟨rfl, rfl, rfl⟩⟩⟩⟩⟩⟩⟩)⟩⟩⟩⟩⟩⟩)⟩⟩⟩)), hW, hB_G_212, hF, (((((Fr.rf.call hq_82 (by decide) (by decide)).call hq_173 (by decide) (by decide)).call hq_193 (by decide) (by decide)).call hq_200 (by decide) (by decide)).call hq_213 (by decide) (by decide)), hS, lv_sub hl [2, 0, 4, 5] rfl⟩
                  · have c_207 : r_198.toInt ≠ y_95.toInt := xI_ne rfl rfl c_207
                    obtain ⟨y_219, ey_219⟩ : ∃ q, q = x_176 + 1 := ⟨_, rfl⟩
                    have ty_219 : y_219.toInt = x_176.toInt + 1 := xI_add rfl rfl ey_219 (by omega) (by omega)
                    refine lv_iinc (v := y_219) (lv' := [(10, .int y_219), (8, .int 0), (9, .int y_95), (7, .int x_86), (6, .int r_64), (0, .ref (a 66))]) hx hb dX12_fewest_221 hl (k := 0) rfl (by rw [ey_219]; rfl) (by decide) rfl (fun ls hl => ?_)
                    refine lv_goto (tgt := 175) hx hb dX12_fewest_224 (by decide) ?_
                    exact ih_174 (b9 - y_219.toInt : Int).toNat (by omega) _ _ _ ⟨G_199, y_219, (Int.toNat_of_nonneg (by omega)), ⟨by omega, by omega⟩, (by omega), (by omega), (hX_177.st (St_n_fewest_4_mk ⟨x_176, G_172, y_219, G_199, rfl, rfl, f_178, f_180, hB_G_172, ⟨y_182, ty_182, ⟨y_183, ey_183, (Or.inr ⟨c_186, ⟨y_188, ty_188, (Or.inl ⟨c_189, ⟨r_191, G_192, hX_195, ⟨r_198, G_199, hX_202, ⟨c_207, ⟨y_219, ty_219, ⟨rfl, rfl⟩⟩⟩⟩⟩⟩)⟩⟩)⟩⟩⟩)), hW, hB_G_199, hF, (((Fr.rf.call hq_173 (by decide) (by decide)).call hq_193 (by decide) (by decide)).call hq_200 (by decide) (by decide)), hS, lv_sub hl [0, 1, 2, 3, 4, 5] rfl⟩
                · have c_189 : (G_24.1 66 62).toInt < x_176.toInt := xI_nle rfl rfl c_189
                  refine lv_iconst (v := 1) hx hb dX12_fewest_203 (by decide) ?_
                  refine lv_goto (tgt := 208) hx hb dX12_fewest_204 (by decide) ?_
                  have qc_220 : (1 : Int32).toInt = 1 := rfl
                  refine S_calli (va_runS (As := [.int 1]) (rest := [.int y_188, .ref (a 66)]) ⟨hx, hb, hml, hown, hts⟩ (n_truth l D k A a z G_172 1 ⟨by decide, by decide⟩) (va_cwS 1 hts (gd_S hgd m1788 m1789 m131 m1790) rfl rfl rfl (by decide +kernel) ⟨Nat.le_of_ble_eq_true rfl, Nat.le_of_ble_eq_true rfl⟩) (pre_S hW hB_G_172 hK hZ hS) rfl rfl hl.1 rfl (lv_room (Nat.le_of_ble_eq_true rfl)) dX12_fewest_208 ⟨Nat.le_of_ble_eq_true rfl, Nat.le_of_ble_eq_true rfl⟩) hS (fun r_221 G_222 H locs hpo hW hS => ?_)
                  have hX_225 : Q_truth 1 G_172 r_221 G_222 := hpo
                  obtain ⟨hB_G_222, hq_223, f_226, hp_224, -⟩ := hpo
                  have hF := hF.call hq_223 (by decide) (by decide)
                  refine lv_iload hx hb dX12_fewest_211 (lv_at hl 1 rfl) ?_
                  have qc_227 : (0 : Int32).toInt = 0 := rfl
                  refine S_calli (va_runV (As := [.int y_188, .int r_221, .int 0]) (rest := []) ⟨hx, hb, hml, hown, hts⟩ (n_needOf l D k A a z G_222 y_188 r_221 0 ⟨by omega, by omega⟩ ⟨by omega, by omega⟩ ⟨by decide, by decide⟩) (cwV 3 hts (gd_V hgd m1859 m1861 m96 m131 m1862) rfl rfl rfl (by decide +kernel) ⟨Nat.le_of_ble_eq_true rfl, Nat.le_of_ble_eq_true rfl⟩) (pre_V hW hB_G_222 hK hZ hS kd_66 rfl) rfl rfl hl.1 rfl (lv_room (Nat.le_of_ble_eq_true rfl)) dX12_fewest_213 ⟨Nat.le_of_ble_eq_true rfl, Nat.le_of_ble_eq_true rfl⟩) hS (fun r_228 G_229 H locs hpo hW hS => ?_)
                  have hX_232 : Q_needOf y_188 r_221 0 G_222 r_228 G_229 := hpo
                  obtain ⟨hB_G_229, hq_230, f_233, hp_231, -⟩ := hpo
                  have hF := hF.call hq_230 (by decide) (by decide)
                  have hm_234 : r_228.toInt = ndv (G_40.1 99) y_188.toInt r_221.toInt 0 := hp_231.trans (ndv_eq3 (show G_222.1 99 = G_40.1 99 from (funext fun j => ((fun (j : Nat) (_ : True) => ((hq_223.ri 99 (by decide) (by decide) j).trans ((hq_173.ri 99 (by decide) (by decide) j).trans ((hq_82.ri 99 (by decide) (by decide) j).trans ((hq_76.ri 99 (by decide) (by decide) j).trans ((hq_66.ri 99 (by decide) (by decide) j).trans (hq_49.ri 99 (by decide) (by decide) j)))))))) j trivial)) rfl rfl rfl)
                  have u_235 := PRG_1 hp_42 (x := y_188.toInt) (l := r_221.toInt) (i := 0) (by omega) (by omega) (by omega) (by omega) (by omega)
                  have u_236 : x_176.toInt = b9 → r_228.toInt = y_95.toInt := fun q => (hm_234.trans ((ndv_eq3 rfl (by omega) (by omega) (by omega)).trans hb4)).trans (by omega)
                  refine lv_iload hx hb dX12_fewest_216 (lv_at hl 2 rfl) ?_
                  refine lv_icmp_eq (tgt := 227) hx hb dX12_fewest_218 (by decide) (fun c_237 => ?_) (fun c_237 => ?_)
                  · have c_237 : r_228.toInt = y_95.toInt := xI_eq rfl rfl c_237
                    refine lv_iload hx hb dX12_fewest_227 (lv_at hl 3 rfl) ?_
                    refine lv_iload hx hb dX12_fewest_229 (lv_at hl 0 rfl) ?_
                    refine lv_iadd hx hb dX12_fewest_231 ?_
                    refine lv_topi (fun y_238 ey_238 => ?_)
                    have ty_238 : y_238.toInt = x_86.toInt + x_176.toInt := xI_add rfl rfl ey_238 (by omega) (by omega)
                    refine lv_istore (lv' := [(7, .int y_238), (10, .int x_176), (8, .int 0), (9, .int y_95), (6, .int r_64), (0, .ref (a 66))]) hx hb dX12_fewest_232 hl (by decide) rfl (fun ls hl => ?_)
                    refine lv_aload_n hx hb dX12_fewest_234 rfl (lv_at hl 5 rfl) ?_
                    refine lv_iload hx hb dX12_fewest_235 (lv_at hl 0 rfl) ?_
                    have g_239 : (G_229.1 66 66).toInt = (G_81.1 66 66).toInt := by rw [show G_229.1 66 66 = (G_81.1 66 66) from ((hq_230.i 66 66 (by decide) (by decide)).trans ((hq_223.i 66 66 (by decide) (by decide)).trans ((hq_173.i 66 66 (by decide) (by decide)).trans (rfl))))]
                    have g_240 : (G_229.1 66 66).toInt = (G_81.1 66 66).toInt := by rw [show G_229.1 66 66 = (G_81.1 66 66) from ((hq_230.i 66 66 (by decide) (by decide)).trans ((hq_223.i 66 66 (by decide) (by decide)).trans ((hq_173.i 66 66 (by decide) (by decide)).trans (rfl))))]
                    refine S_callv (va_runV (As := [.int y_238]) (rest := []) ⟨hx, hb, hml, hown, hts⟩ (n_lay l D k A a z G_229 y_238 (by omega)) (cwV 1 hts (gd_V hgd m1866 m1868 m97 m131 m1869) rfl rfl rfl (by decide +kernel) ⟨Nat.le_of_ble_eq_true rfl, Nat.le_of_ble_eq_true rfl⟩) (pre_V hW hB_G_229 hK hZ hS kd_66 rfl) rfl rfl hl.1 rfl (lv_room (Nat.le_of_ble_eq_true rfl)) dX12_fewest_237 ⟨Nat.le_of_ble_eq_true rfl, Nat.le_of_ble_eq_true rfl⟩) hS (fun G_242 H locs hpo hW hS => ?_)
                    have hX_245 : Q_lay y_238 G_229 G_242 := hpo
                    obtain ⟨hB_G_242, hq_243, hp_244, -⟩ := hpo
                    have hF := hF.call hq_243 (by decide) (by decide)
                    have b_246 : 0 ≤ (G_242.1 66 66).toInt ∧ (G_242.1 66 66).toInt ≤ 400 := hB_G_242.i 66 66 rfl rfl
                    have hf_247 : FWp (G_40.1 99) y_238.toInt 0 (r_64.toInt - (G_242.1 66 66).toInt + 1) := ⟨r_221.toInt, by omega, (ndv_eq3 rfl (by omega) rfl rfl).trans (hm_234.symm.trans (by omega))⟩
                    refine lv_goto (tgt := 136) hx hb dX12_fewest_240 (by decide) ?_
                    have qc_248 : (0 : Int32).toInt = 0 := rfl
                    exact ih_83 (r_64.toInt - (G_242.1 66 66).toInt : Int).toNat (by omega) _ _ _ ⟨G_242, 0, y_238, (Int.toNat_of_nonneg (by omega)), ⟨by omega, by omega⟩, ⟨by omega, by omega⟩, (by omega), (by assumption), (hX_87.st (St_n_fewest_2_mk ⟨x_85, x_86, G_81, 0, y_238, G_242, rfl, rfl, f_88, f_89, f_90, f_91, hB_G_81, ⟨c_94, ⟨y_95, ty_95, (Or.inl ⟨c_96, ⟨x_176, G_172, hX_177, f_178, f_180, hB_G_172, hq_173, ⟨y_182, ty_182, ⟨y_183, ey_183, ⟨c_186, ⟨y_188, ty_188, (Or.inr ⟨c_189, ⟨r_221, G_222, hX_225, ⟨r_228, G_229, hX_232, ⟨c_237, ⟨y_238, ty_238, ⟨G_242, hX_245, ⟨rfl, rfl, rfl⟩⟩⟩⟩⟩⟩⟩)⟩⟩⟩⟩⟩⟩)⟩⟩⟩)), hW, hB_G_242, hF, (((((Fr.rf.call hq_82 (by decide) (by decide)).call hq_173 (by decide) (by decide)).call hq_223 (by decide) (by decide)).call hq_230 (by decide) (by decide)).call hq_243 (by decide) (by decide)), hS, lv_sub hl [2, 0, 4, 5] rfl⟩
                  · have c_237 : r_228.toInt ≠ y_95.toInt := xI_ne rfl rfl c_237
                    obtain ⟨y_249, ey_249⟩ : ∃ q, q = x_176 + 1 := ⟨_, rfl⟩
                    have ty_249 : y_249.toInt = x_176.toInt + 1 := xI_add rfl rfl ey_249 (by omega) (by omega)
                    refine lv_iinc (v := y_249) (lv' := [(10, .int y_249), (8, .int 0), (9, .int y_95), (7, .int x_86), (6, .int r_64), (0, .ref (a 66))]) hx hb dX12_fewest_221 hl (k := 0) rfl (by rw [ey_249]; rfl) (by decide) rfl (fun ls hl => ?_)
                    refine lv_goto (tgt := 175) hx hb dX12_fewest_224 (by decide) ?_
                    exact ih_174 (b9 - y_249.toInt : Int).toNat (by omega) _ _ _ ⟨G_229, y_249, (Int.toNat_of_nonneg (by omega)), ⟨by omega, by omega⟩, (by omega), (by omega), (hX_177.st (St_n_fewest_4_mk ⟨x_176, G_172, y_249, G_229, rfl, rfl, f_178, f_180, hB_G_172, ⟨y_182, ty_182, ⟨y_183, ey_183, (Or.inr ⟨c_186, ⟨y_188, ty_188, (Or.inr ⟨c_189, ⟨r_221, G_222, hX_225, ⟨r_228, G_229, hX_232, ⟨c_237, ⟨y_249, ty_249, ⟨rfl, rfl⟩⟩⟩⟩⟩⟩)⟩⟩)⟩⟩⟩)), hW, hB_G_229, hF, (((Fr.rf.call hq_173 (by decide) (by decide)).call hq_223 (by decide) (by decide)).call hq_230 (by decide) (by decide)), hS, lv_sub hl [0, 1, 2, 3, 4, 5] rfl⟩
        · have c_62 : x_53.toInt < 0 := xI_nle rfl rfl c_62
          refine lv_iconst (v := (-1)) hx hb dX12_fewest_109 (by decide) ?_
          exact W.iret (v := (-1)) hx hb hr (fun t ht _ => ⟨⟨(-1), G_48, rfl, (Q_fewest_mk ⟨hB_G_48, hF, ⟨G_1, hB_G_1, (Fr.rf.put eG_1 (Or.inr (by decide))), (gp_eq eG_1), ⟨r_6, G_7, hX_10, (Or.inr ⟨c_12, ⟨r_15, G_16, hX_19, (Or.inr ⟨c_21, ⟨G_24, hX_27, ⟨G_40, hX_43, ⟨x_52, x_53, G_48, hX_54, f_57, f_58, f_59, hB_G_48, hq_49, ⟨c_61, (Or.inr ⟨c_62, ⟨rfl, rfl⟩⟩)⟩⟩⟩⟩⟩)⟩⟩)⟩⟩⟩), wd_t ht hW⟩, hS.F ht⟩) hS.2.2 dX12_fewest_110
      · have c_61 : x_52.toInt < (G_24.1 66 62).toInt := xI_nle rfl rfl c_61
        refine lv_aload_n hx hb dX12_fewest_53 rfl (lv_at hl 2 rfl) ?_
        refine lv_iload hx hb dX12_fewest_54 (lv_at hl 0 rfl) ?_
        refine lv_iconst (v := 0) hx hb dX12_fewest_56 (by decide) ?_
        refine lv_iload hx hb dX12_fewest_57 (lv_at hl 3 rfl) ?_
        have qc_250 : (0 : Int32).toInt = 0 := rfl
        refine S_calli (va_runV (As := [.int x_52, .int 0, .int p3]) (rest := []) ⟨hx, hb, hml, hown, hts⟩ (n_needOf l D k A a z G_48 x_52 0 p3 ⟨by omega, by omega⟩ ⟨by decide, by decide⟩ ⟨by omega, by omega⟩) (cwV 3 hts (gd_V hgd m1859 m1861 m96 m131 m1862) rfl rfl rfl (by decide +kernel) ⟨Nat.le_of_ble_eq_true rfl, Nat.le_of_ble_eq_true rfl⟩) (pre_V hW hB_G_48 hK hZ hS kd_66 rfl) rfl rfl hl.1 rfl (lv_room (Nat.le_of_ble_eq_true rfl)) dX12_fewest_59 ⟨Nat.le_of_ble_eq_true rfl, Nat.le_of_ble_eq_true rfl⟩) hS (fun r_251 G_252 H locs hpo hW hS => ?_)
        have hX_255 : Q_needOf x_52 0 p3 G_48 r_251 G_252 := hpo
        obtain ⟨hB_G_252, hq_253, f_256, hp_254, -⟩ := hpo
        have hF := hF.call hq_253 (by decide) (by decide)
        have hm_257 : r_251.toInt = ndv (G_40.1 99) x_52.toInt 0 p3.toInt := hp_254.trans (ndv_eq3 (show G_48.1 99 = G_40.1 99 from (funext fun j => ((fun (j : Nat) (_ : True) => (hq_49.ri 99 (by decide) (by decide) j))) j trivial)) rfl rfl rfl)
        have u_258 := PRG_1 hp_42 (x := x_52.toInt) (l := 0) (i := p3.toInt) (by omega) (by omega) (by omega) (by omega) (by omega)
        refine lv_ldcw (v := 100000) hx hb hown (hg (Cond.constant RX12 502 100000) m1858) dX12_fewest_62 ?_
        refine lv_icmp_ge (tgt := 98) hx hb dX12_fewest_65 (by decide) (fun c_259 => ?_) (fun c_259 => ?_)
        · have c_259 : 100000 ≤ r_251.toInt := xI_le rfl rfl c_259
          obtain ⟨y_260, ey_260⟩ : ∃ q, q = x_52 + 1 := ⟨_, rfl⟩
          have ty_260 : y_260.toInt = x_52.toInt + 1 := xI_add rfl rfl ey_260 (by omega) (by omega)
          refine lv_iinc (v := y_260) (lv' := [(6, .int y_260), (5, .int x_53), (0, .ref (a 66)), (4, .int p3)]) hx hb dX12_fewest_98 hl (k := 0) rfl (by rw [ey_260]; rfl) (by decide) rfl (fun ls hl => ?_)
          refine lv_goto (tgt := 44) hx hb dX12_fewest_101 (by decide) ?_
          exact ih_50 (60 - y_260.toInt : Int).toNat (by omega) _ _ _ ⟨G_252, y_260, x_53, (Int.toNat_of_nonneg (by omega)), ⟨by omega, by omega⟩, ⟨by omega, by omega⟩, (by omega), (hX_54.st (St_n_fewest_1_mk ⟨x_52, x_53, G_48, y_260, x_53, G_252, rfl, rfl, f_57, f_58, f_59, hB_G_48, ⟨c_61, ⟨r_251, G_252, hX_255, (Or.inl ⟨c_259, ⟨y_260, ty_260, ⟨rfl, rfl, rfl⟩⟩⟩)⟩⟩⟩)), hW, hB_G_252, hF, ((Fr.rf.call hq_49 (by decide) (by decide)).call hq_253 (by decide) (by decide)), hS, lv_sub hl [0, 1, 2, 3] rfl⟩
        · have c_259 : r_251.toInt < 100000 := xI_nle rfl rfl c_259
          refine lv_iload hx hb dX12_fewest_68 (lv_at hl 1 rfl) ?_
          refine lv_if_lt (tgt := 94) hx hb dX12_fewest_70 (by decide) (fun c_261 => ?_) (fun c_261 => ?_)
          · have c_261 : x_53.toInt < 0 := xI_lt rfl rfl c_261
            refine lv_iload hx hb dX12_fewest_94 (lv_at hl 0 rfl) ?_
            refine lv_istore (lv' := [(5, .int x_52), (6, .int x_52), (0, .ref (a 66)), (4, .int p3)]) hx hb dX12_fewest_96 hl (by decide) rfl (fun ls hl => ?_)
            obtain ⟨y_262, ey_262⟩ : ∃ q, q = x_52 + 1 := ⟨_, rfl⟩
            have ty_262 : y_262.toInt = x_52.toInt + 1 := xI_add rfl rfl ey_262 (by omega) (by omega)
            refine lv_iinc (v := y_262) (lv' := [(6, .int y_262), (5, .int x_52), (0, .ref (a 66)), (4, .int p3)]) hx hb dX12_fewest_98 hl (k := 1) rfl (by rw [ey_262]; rfl) (by decide) rfl (fun ls hl => ?_)
            refine lv_goto (tgt := 44) hx hb dX12_fewest_101 (by decide) ?_
            exact ih_50 (60 - y_262.toInt : Int).toNat (by omega) _ _ _ ⟨G_252, y_262, x_52, (Int.toNat_of_nonneg (by omega)), ⟨by omega, by omega⟩, ⟨by omega, by omega⟩, (by omega), (hX_54.st (St_n_fewest_1_mk ⟨x_52, x_53, G_48, y_262, x_52, G_252, rfl, rfl, f_57, f_58, f_59, hB_G_48, ⟨c_61, ⟨r_251, G_252, hX_255, (Or.inr ⟨c_259, (Or.inl ⟨c_261, ⟨y_262, ty_262, ⟨rfl, rfl, rfl⟩⟩⟩)⟩)⟩⟩⟩)), hW, hB_G_252, hF, ((Fr.rf.call hq_49 (by decide) (by decide)).call hq_253 (by decide) (by decide)), hS, lv_sub hl [0, 1, 2, 3] rfl⟩
          · have c_261 : 0 ≤ x_53.toInt := xI_nlt rfl rfl c_261
            refine lv_aload_n hx hb dX12_fewest_73 rfl (lv_at hl 2 rfl) ?_
            refine lv_iload hx hb dX12_fewest_74 (lv_at hl 0 rfl) ?_
            refine lv_iconst (v := 0) hx hb dX12_fewest_76 (by decide) ?_
            refine lv_iload hx hb dX12_fewest_77 (lv_at hl 3 rfl) ?_
            have qc_263 : (0 : Int32).toInt = 0 := rfl
            refine S_calli (va_runV (As := [.int x_52, .int 0, .int p3]) (rest := []) ⟨hx, hb, hml, hown, hts⟩ (n_needOf l D k A a z G_252 x_52 0 p3 ⟨by omega, by omega⟩ ⟨by decide, by decide⟩ ⟨by omega, by omega⟩) (cwV 3 hts (gd_V hgd m1859 m1861 m96 m131 m1862) rfl rfl rfl (by decide +kernel) ⟨Nat.le_of_ble_eq_true rfl, Nat.le_of_ble_eq_true rfl⟩) (pre_V hW hB_G_252 hK hZ hS kd_66 rfl) rfl rfl hl.1 rfl (lv_room (Nat.le_of_ble_eq_true rfl)) dX12_fewest_79 ⟨Nat.le_of_ble_eq_true rfl, Nat.le_of_ble_eq_true rfl⟩) hS (fun r_264 G_265 H locs hpo hW hS => ?_)
            have hX_268 : Q_needOf x_52 0 p3 G_252 r_264 G_265 := hpo
            obtain ⟨hB_G_265, hq_266, f_269, hp_267, -⟩ := hpo
            have hF := hF.call hq_266 (by decide) (by decide)
            have hm_270 : r_264.toInt = ndv (G_40.1 99) x_52.toInt 0 p3.toInt := hp_267.trans (ndv_eq3 (show G_252.1 99 = G_40.1 99 from (funext fun j => ((fun (j : Nat) (_ : True) => ((hq_253.ri 99 (by decide) (by decide) j).trans (hq_49.ri 99 (by decide) (by decide) j)))) j trivial)) rfl rfl rfl)
            have u_271 := PRG_1 hp_42 (x := x_52.toInt) (l := 0) (i := p3.toInt) (by omega) (by omega) (by omega) (by omega) (by omega)
            refine lv_aload_n hx hb dX12_fewest_82 rfl (lv_at hl 2 rfl) ?_
            refine lv_iload hx hb dX12_fewest_83 (lv_at hl 1 rfl) ?_
            refine lv_iconst (v := 0) hx hb dX12_fewest_85 (by decide) ?_
            refine lv_iload hx hb dX12_fewest_86 (lv_at hl 3 rfl) ?_
            have qc_272 : (0 : Int32).toInt = 0 := rfl
            refine S_calli (va_runV (As := [.int x_53, .int 0, .int p3]) (rest := [.int r_264]) ⟨hx, hb, hml, hown, hts⟩ (n_needOf l D k A a z G_265 x_53 0 p3 ⟨by omega, by omega⟩ ⟨by decide, by decide⟩ ⟨by omega, by omega⟩) (cwV 3 hts (gd_V hgd m1859 m1861 m96 m131 m1862) rfl rfl rfl (by decide +kernel) ⟨Nat.le_of_ble_eq_true rfl, Nat.le_of_ble_eq_true rfl⟩) (pre_V hW hB_G_265 hK hZ hS kd_66 rfl) rfl rfl hl.1 rfl (lv_room (Nat.le_of_ble_eq_true rfl)) dX12_fewest_88 ⟨Nat.le_of_ble_eq_true rfl, Nat.le_of_ble_eq_true rfl⟩) hS (fun r_273 G_274 H locs hpo hW hS => ?_)
            have hX_277 : Q_needOf x_53 0 p3 G_265 r_273 G_274 := hpo
            obtain ⟨hB_G_274, hq_275, f_278, hp_276, -⟩ := hpo
            have hF := hF.call hq_275 (by decide) (by decide)
            have hm_279 : r_273.toInt = ndv (G_40.1 99) x_53.toInt 0 p3.toInt := hp_276.trans (ndv_eq3 (show G_265.1 99 = G_40.1 99 from (funext fun j => ((fun (j : Nat) (_ : True) => ((hq_266.ri 99 (by decide) (by decide) j).trans ((hq_253.ri 99 (by decide) (by decide) j).trans (hq_49.ri 99 (by decide) (by decide) j))))) j trivial)) rfl rfl rfl)
            have u_280 := PRG_1 hp_42 (x := x_53.toInt) (l := 0) (i := p3.toInt) (by omega) (by omega) (by omega) (by omega) (by omega)
            refine lv_icmp_ge (tgt := 98) hx hb dX12_fewest_91 (by decide) (fun c_281 => ?_) (fun c_281 => ?_)
            · have c_281 : r_273.toInt ≤ r_264.toInt := xI_le rfl rfl c_281
              obtain ⟨y_282, ey_282⟩ : ∃ q, q = x_52 + 1 := ⟨_, rfl⟩
              have ty_282 : y_282.toInt = x_52.toInt + 1 := xI_add rfl rfl ey_282 (by omega) (by omega)
              refine lv_iinc (v := y_282) (lv' := [(6, .int y_282), (5, .int x_53), (0, .ref (a 66)), (4, .int p3)]) hx hb dX12_fewest_98 hl (k := 0) rfl (by rw [ey_282]; rfl) (by decide) rfl (fun ls hl => ?_)
              refine lv_goto (tgt := 44) hx hb dX12_fewest_101 (by decide) ?_
              exact ih_50 (60 - y_282.toInt : Int).toNat (by omega) _ _ _ ⟨G_274, y_282, x_53, (Int.toNat_of_nonneg (by omega)), ⟨by omega, by omega⟩, ⟨by omega, by omega⟩, (by omega), (hX_54.st (St_n_fewest_1_mk ⟨x_52, x_53, G_48, y_282, x_53, G_274, rfl, rfl, f_57, f_58, f_59, hB_G_48, ⟨c_61, ⟨r_251, G_252, hX_255, (Or.inr ⟨c_259, (Or.inr ⟨c_261, ⟨r_264, G_265, hX_268, ⟨r_273, G_274, hX_277, (Or.inl ⟨c_281, ⟨y_282, ty_282, ⟨rfl, rfl, rfl⟩⟩⟩)⟩⟩⟩)⟩)⟩⟩⟩)), hW, hB_G_274, hF, ((((Fr.rf.call hq_49 (by decide) (by decide)).call hq_253 (by decide) (by decide)).call hq_266 (by decide) (by decide)).call hq_275 (by decide) (by decide)), hS, lv_sub hl [0, 1, 2, 3] rfl⟩
            · have c_281 : r_264.toInt < r_273.toInt := xI_nle rfl rfl c_281
              refine lv_iload hx hb dX12_fewest_94 (lv_at hl 0 rfl) ?_
              refine lv_istore (lv' := [(5, .int x_52), (6, .int x_52), (0, .ref (a 66)), (4, .int p3)]) hx hb dX12_fewest_96 hl (by decide) rfl (fun ls hl => ?_)
              obtain ⟨y_283, ey_283⟩ : ∃ q, q = x_52 + 1 := ⟨_, rfl⟩
              have ty_283 : y_283.toInt = x_52.toInt + 1 := xI_add rfl rfl ey_283 (by omega) (by omega)
              refine lv_iinc (v := y_283) (lv' := [(6, .int y_283), (5, .int x_52), (0, .ref (a 66)), (4, .int p3)]) hx hb dX12_fewest_98 hl (k := 1) rfl (by rw [ey_283]; rfl) (by decide) rfl (fun ls hl => ?_)
              refine lv_goto (tgt := 44) hx hb dX12_fewest_101 (by decide) ?_
              exact ih_50 (60 - y_283.toInt : Int).toNat (by omega) _ _ _ ⟨G_274, y_283, x_52, (Int.toNat_of_nonneg (by omega)), ⟨by omega, by omega⟩, ⟨by omega, by omega⟩, (by omega), (hX_54.st (St_n_fewest_1_mk ⟨x_52, x_53, G_48, y_283, x_52, G_274, rfl, rfl, f_57, f_58, f_59, hB_G_48, ⟨c_61, ⟨r_251, G_252, hX_255, (Or.inr ⟨c_259, (Or.inr ⟨c_261, ⟨r_264, G_265, hX_268, ⟨r_273, G_274, hX_277, (Or.inr ⟨c_281, ⟨y_283, ty_283, ⟨rfl, rfl, rfl⟩⟩⟩)⟩⟩⟩)⟩)⟩⟩⟩)), hW, hB_G_274, hF, ((((Fr.rf.call hq_49 (by decide) (by decide)).call hq_253 (by decide) (by decide)).call hq_266 (by decide) (by decide)).call hq_275 (by decide) (by decide)), hS, lv_sub hl [0, 1, 2, 3] rfl⟩
    · have c_21 : r_15.toInt = 0 := xI_eq rfl rfl c_21
      refine lv_iconst (v := (-1)) hx hb dX12_fewest_25 (by decide) ?_
      exact W.iret (v := (-1)) hx hb hr (fun t ht _ => ⟨⟨(-1), G_16, rfl, (Q_fewest_mk ⟨hB_G_16, hF, ⟨G_1, hB_G_1, (Fr.rf.put eG_1 (Or.inr (by decide))), (gp_eq eG_1), ⟨r_6, G_7, hX_10, (Or.inr ⟨c_12, ⟨r_15, G_16, hX_19, (Or.inl ⟨c_21, ⟨rfl, rfl⟩⟩)⟩⟩)⟩⟩⟩), wd_t ht hW⟩, hS.F ht⟩) hS.2.2 dX12_fewest_26
