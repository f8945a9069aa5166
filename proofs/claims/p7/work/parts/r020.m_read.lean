theorem m54 : Cond.selects RX12 yX12_readStreet yX12_readStreet ∈ gd := gd_mem 54 (by decide +kernel) (by decide +kernel)
theorem m66 : Cond.selects RX12 yX12_readWalker yX12_readWalker ∈ gd := gd_mem 66 (by decide +kernel) (by decide +kernel)
theorem m68 : Cond.selects RX12 yX12_readRule yX12_readRule ∈ gd := gd_mem 68 (by decide +kernel) (by decide +kernel)
theorem m81 : Cond.selects RX12 yX12_isOnce yX12_isOnce ∈ gd := gd_mem 81 (by decide +kernel) (by decide +kernel)
theorem m82 : Cond.selects RX12 yX12_readSlip yX12_readSlip ∈ gd := gd_mem 82 (by decide +kernel) (by decide +kernel)
theorem m1348 : Cond.fieldLink RX12 72 "SlabWalkModel" "nSlips" "[I" ∈ gd := gd_mem 1348 (by decide +kernel) (by decide +kernel)
theorem m1362 : Cond.fieldLink RX12 410 "SlabWalkModel" "nHand" "I" ∈ gd := gd_mem 1362 (by decide +kernel) (by decide +kernel)
theorem m1363 : Cond.fieldLink RX12 413 "SlabWalkModel" "nSlack" "I" ∈ gd := gd_mem 1363 (by decide +kernel) (by decide +kernel)
theorem m1364 : Cond.fieldLink RX12 416 "SlabWalkModel" "nDraw" "I" ∈ gd := gd_mem 1364 (by decide +kernel) (by decide +kernel)
theorem m1365 : Cond.fieldLink RX12 391 "SlabWalkModel" "nOnce" "I" ∈ gd := gd_mem 1365 (by decide +kernel) (by decide +kernel)
theorem m1628 : Cond.methodLink RX12 394 yX12_readStreet ∈ gd := gd_mem 1628 (by decide +kernel) (by decide +kernel)
theorem m1630 : Cond.instanceMethod yX12_readStreet ∈ gd := gd_mem 1630 (by decide +kernel) (by decide +kernel)
theorem m1631 : Cond.code yX12_readStreet cX12_readStreet 3 none ∈ gd := gd_mem 1631 (by decide +kernel) (by decide +kernel)
theorem m1698 : Cond.methodLink RX12 397 yX12_readWalker ∈ gd := gd_mem 1698 (by decide +kernel) (by decide +kernel)
theorem m1700 : Cond.instanceMethod yX12_readWalker ∈ gd := gd_mem 1700 (by decide +kernel) (by decide +kernel)
theorem m1701 : Cond.code yX12_readWalker cX12_readWalker 2 none ∈ gd := gd_mem 1701 (by decide +kernel) (by decide +kernel)
theorem m1706 : Cond.methodLink RX12 400 yX12_readRule ∈ gd := gd_mem 1706 (by decide +kernel) (by decide +kernel)
theorem m1708 : Cond.instanceMethod yX12_readRule ∈ gd := gd_mem 1708 (by decide +kernel) (by decide +kernel)
theorem m1709 : Cond.code yX12_readRule cX12_readRule 1 none ∈ gd := gd_mem 1709 (by decide +kernel) (by decide +kernel)
theorem m1761 : Cond.methodLink RX12 403 yX12_isOnce ∈ gd := gd_mem 1761 (by decide +kernel) (by decide +kernel)
theorem m1763 : Cond.instanceMethod yX12_isOnce ∈ gd := gd_mem 1763 (by decide +kernel) (by decide +kernel)
theorem m1764 : Cond.code yX12_isOnce cX12_isOnce 4 (some .boolean) ∈ gd := gd_mem 1764 (by decide +kernel) (by decide +kernel)
theorem m1765 : Cond.methodLink RX12 407 yX12_readSlip ∈ gd := gd_mem 1765 (by decide +kernel) (by decide +kernel)
theorem m1767 : Cond.instanceMethod yX12_readSlip ∈ gd := gd_mem 1767 (by decide +kernel) (by decide +kernel)
theorem m1768 : Cond.code yX12_readSlip cX12_readSlip 1 none ∈ gd := gd_mem 1768 (by decide +kernel) (by decide +kernel)
theorem dX12_isOnce_0 : decode cX12_isOnce 0 = .ok (.aload_n 0, 1) := by decide +kernel
theorem dX12_isOnce_1 : decode cX12_isOnce 1 = .ok (.lload_n 1, 1) := by decide +kernel
theorem dX12_isOnce_2 : decode cX12_isOnce 2 = .ok (.invokevirtual 275, 3) := by decide +kernel
theorem dX12_isOnce_5 : decode cX12_isOnce 5 = .ok (.ifCond .eq 16, 3) := by decide +kernel
theorem dX12_isOnce_8 : decode cX12_isOnce 8 = .ok (.aload_n 0, 1) := by decide +kernel
theorem dX12_isOnce_9 : decode cX12_isOnce 9 = .ok (.getfield 391, 3) := by decide +kernel
theorem dX12_isOnce_12 : decode cX12_isOnce 12 = .ok (.iload_n 3, 1) := by decide +kernel
theorem dX12_isOnce_13 : decode cX12_isOnce 13 = .ok (.iand, 1) := by decide +kernel
theorem dX12_isOnce_14 : decode cX12_isOnce 14 = .ok (.ifCond .ne 7, 3) := by decide +kernel
theorem dX12_isOnce_17 : decode cX12_isOnce 17 = .ok (.iconst 1, 1) := by decide +kernel
theorem dX12_isOnce_18 : decode cX12_isOnce 18 = .ok (.goto 4, 3) := by decide +kernel
theorem dX12_isOnce_21 : decode cX12_isOnce 21 = .ok (.iconst 0, 1) := by decide +kernel
theorem dX12_isOnce_22 : decode cX12_isOnce 22 = .ok (.ireturn, 1) := by decide +kernel
theorem dX12_readLine_0 : decode cX12_readLine 0 = .ok (.aload_n 0, 1) := by decide +kernel
theorem dX12_readLine_1 : decode cX12_readLine 1 = .ok (.ldc2_w 221, 3) := by decide +kernel
theorem dX12_readLine_4 : decode cX12_readLine 4 = .ok (.invokevirtual 275, 3) := by decide +kernel
theorem dX12_readLine_7 : decode cX12_readLine 7 = .ok (.ifCond .eq 18, 3) := by decide +kernel
theorem dX12_readLine_10 : decode cX12_readLine 10 = .ok (.aload_n 0, 1) := by decide +kernel
theorem dX12_readLine_11 : decode cX12_readLine 11 = .ok (.getfield 359, 3) := by decide +kernel
theorem dX12_readLine_14 : decode cX12_readLine 14 = .ok (.iconst 3, 1) := by decide +kernel
theorem dX12_readLine_15 : decode cX12_readLine 15 = .ok (.if_icmp .ge 10, 3) := by decide +kernel
theorem dX12_readLine_18 : decode cX12_readLine 18 = .ok (.aload_n 0, 1) := by decide +kernel
theorem dX12_readLine_19 : decode cX12_readLine 19 = .ok (.invokevirtual 394, 3) := by decide +kernel
theorem dX12_readLine_22 : decode cX12_readLine 22 = .ok (.goto 178, 3) := by decide +kernel
theorem dX12_readLine_25 : decode cX12_readLine 25 = .ok (.aload_n 0, 1) := by decide +kernel
theorem dX12_readLine_26 : decode cX12_readLine 26 = .ok (.ldc2_w 225, 3) := by decide +kernel
theorem dX12_readLine_29 : decode cX12_readLine 29 = .ok (.invokevirtual 275, 3) := by decide +kernel
theorem dX12_readLine_32 : decode cX12_readLine 32 = .ok (.ifCond .eq 18, 3) := by decide +kernel
theorem dX12_readLine_35 : decode cX12_readLine 35 = .ok (.aload_n 0, 1) := by decide +kernel
theorem dX12_readLine_36 : decode cX12_readLine 36 = .ok (.getfield 379, 3) := by decide +kernel
theorem dX12_readLine_39 : decode cX12_readLine 39 = .ok (.iconst 4, 1) := by decide +kernel
theorem dX12_readLine_40 : decode cX12_readLine 40 = .ok (.if_icmp .ge 10, 3) := by decide +kernel
theorem dX12_readLine_43 : decode cX12_readLine 43 = .ok (.aload_n 0, 1) := by decide +kernel
theorem dX12_readLine_44 : decode cX12_readLine 44 = .ok (.invokevirtual 397, 3) := by decide +kernel
theorem dX12_readLine_47 : decode cX12_readLine 47 = .ok (.goto 153, 3) := by decide +kernel
theorem dX12_readLine_50 : decode cX12_readLine 50 = .ok (.aload_n 0, 1) := by decide +kernel
theorem dX12_readLine_51 : decode cX12_readLine 51 = .ok (.ldc2_w 235, 3) := by decide +kernel
theorem dX12_readLine_54 : decode cX12_readLine 54 = .ok (.invokevirtual 275, 3) := by decide +kernel
theorem dX12_readLine_57 : decode cX12_readLine 57 = .ok (.ifCond .eq 19, 3) := by decide +kernel
theorem dX12_readLine_60 : decode cX12_readLine 60 = .ok (.aload_n 0, 1) := by decide +kernel
theorem dX12_readLine_61 : decode cX12_readLine 61 = .ok (.getfield 385, 3) := by decide +kernel
theorem dX12_readLine_64 : decode cX12_readLine 64 = .ok (.bipush 6, 2) := by decide +kernel
theorem dX12_readLine_66 : decode cX12_readLine 66 = .ok (.if_icmp .ge 10, 3) := by decide +kernel
theorem dX12_readLine_69 : decode cX12_readLine 69 = .ok (.aload_n 0, 1) := by decide +kernel
theorem dX12_readLine_70 : decode cX12_readLine 70 = .ok (.invokevirtual 400, 3) := by decide +kernel
theorem dX12_readLine_73 : decode cX12_readLine 73 = .ok (.goto 127, 3) := by decide +kernel
theorem dX12_readLine_76 : decode cX12_readLine 76 = .ok (.aload_n 0, 1) := by decide +kernel
theorem dX12_readLine_77 : decode cX12_readLine 77 = .ok (.ldc2_w 237, 3) := by decide +kernel
theorem dX12_readLine_80 : decode cX12_readLine 80 = .ok (.iconst 1, 1) := by decide +kernel
theorem dX12_readLine_81 : decode cX12_readLine 81 = .ok (.invokevirtual 403, 3) := by decide +kernel
theorem dX12_readLine_84 : decode cX12_readLine 84 = .ok (.ifCond .eq 20, 3) := by decide +kernel
theorem dX12_readLine_87 : decode cX12_readLine 87 = .ok (.aload_n 0, 1) := by decide +kernel
theorem dX12_readLine_88 : decode cX12_readLine 88 = .ok (.dup, 1) := by decide +kernel
theorem dX12_readLine_89 : decode cX12_readLine 89 = .ok (.getfield 391, 3) := by decide +kernel
theorem dX12_readLine_92 : decode cX12_readLine 92 = .ok (.iconst 1, 1) := by decide +kernel
theorem dX12_readLine_93 : decode cX12_readLine 93 = .ok (.ior, 1) := by decide +kernel
theorem dX12_readLine_94 : decode cX12_readLine 94 = .ok (.putfield 391, 3) := by decide +kernel
theorem dX12_readLine_97 : decode cX12_readLine 97 = .ok (.aload_n 0, 1) := by decide +kernel
theorem dX12_readLine_98 : decode cX12_readLine 98 = .ok (.invokevirtual 407, 3) := by decide +kernel
theorem dX12_readLine_101 : decode cX12_readLine 101 = .ok (.goto 99, 3) := by decide +kernel
theorem dX12_readLine_104 : decode cX12_readLine 104 = .ok (.aload_n 0, 1) := by decide +kernel
theorem dX12_readLine_105 : decode cX12_readLine 105 = .ok (.ldc2_w 239, 3) := by decide +kernel
theorem dX12_readLine_108 : decode cX12_readLine 108 = .ok (.iconst 2, 1) := by decide +kernel
theorem dX12_readLine_109 : decode cX12_readLine 109 = .ok (.invokevirtual 403, 3) := by decide +kernel
theorem dX12_readLine_112 : decode cX12_readLine 112 = .ok (.ifCond .eq 44, 3) := by decide +kernel
theorem dX12_readLine_115 : decode cX12_readLine 115 = .ok (.aload_n 0, 1) := by decide +kernel
theorem dX12_readLine_116 : decode cX12_readLine 116 = .ok (.dup, 1) := by decide +kernel
theorem dX12_readLine_117 : decode cX12_readLine 117 = .ok (.getfield 391, 3) := by decide +kernel
theorem dX12_readLine_120 : decode cX12_readLine 120 = .ok (.iconst 2, 1) := by decide +kernel
theorem dX12_readLine_121 : decode cX12_readLine 121 = .ok (.ior, 1) := by decide +kernel
theorem dX12_readLine_122 : decode cX12_readLine 122 = .ok (.putfield 391, 3) := by decide +kernel
theorem dX12_readLine_125 : decode cX12_readLine 125 = .ok (.aload_n 0, 1) := by decide +kernel
theorem dX12_readLine_126 : decode cX12_readLine 126 = .ok (.aload_n 0, 1) := by decide +kernel
theorem dX12_readLine_127 : decode cX12_readLine 127 = .ok (.ldc2_w 239, 3) := by decide +kernel
theorem dX12_readLine_130 : decode cX12_readLine 130 = .ok (.iconst 1, 1) := by decide +kernel
theorem dX12_readLine_131 : decode cX12_readLine 131 = .ok (.bipush 99, 2) := by decide +kernel
theorem dX12_readLine_133 : decode cX12_readLine 133 = .ok (.invokevirtual 372, 3) := by decide +kernel
theorem dX12_readLine_136 : decode cX12_readLine 136 = .ok (.putfield 410, 3) := by decide +kernel
theorem dX12_readLine_139 : decode cX12_readLine 139 = .ok (.aload_n 0, 1) := by decide +kernel
theorem dX12_readLine_140 : decode cX12_readLine 140 = .ok (.aload_n 0, 1) := by decide +kernel
theorem dX12_readLine_141 : decode cX12_readLine 141 = .ok (.ldc2_w 241, 3) := by decide +kernel
theorem dX12_readLine_144 : decode cX12_readLine 144 = .ok (.iconst 0, 1) := by decide +kernel
theorem dX12_readLine_145 : decode cX12_readLine 145 = .ok (.bipush 99, 2) := by decide +kernel
theorem dX12_readLine_147 : decode cX12_readLine 147 = .ok (.invokevirtual 372, 3) := by decide +kernel
theorem dX12_readLine_150 : decode cX12_readLine 150 = .ok (.putfield 413, 3) := by decide +kernel
theorem dX12_readLine_153 : decode cX12_readLine 153 = .ok (.goto 47, 3) := by decide +kernel
theorem dX12_readLine_156 : decode cX12_readLine 156 = .ok (.aload_n 0, 1) := by decide +kernel
theorem dX12_readLine_157 : decode cX12_readLine 157 = .ok (.ldc2_w 243, 3) := by decide +kernel
theorem dX12_readLine_160 : decode cX12_readLine 160 = .ok (.iconst 4, 1) := by decide +kernel
theorem dX12_readLine_161 : decode cX12_readLine 161 = .ok (.invokevirtual 403, 3) := by decide +kernel
theorem dX12_readLine_164 : decode cX12_readLine 164 = .ok (.ifCond .eq 31, 3) := by decide +kernel
theorem dX12_readLine_167 : decode cX12_readLine 167 = .ok (.aload_n 0, 1) := by decide +kernel
theorem dX12_readLine_168 : decode cX12_readLine 168 = .ok (.dup, 1) := by decide +kernel
theorem dX12_readLine_169 : decode cX12_readLine 169 = .ok (.getfield 391, 3) := by decide +kernel
theorem dX12_readLine_172 : decode cX12_readLine 172 = .ok (.iconst 4, 1) := by decide +kernel
theorem dX12_readLine_173 : decode cX12_readLine 173 = .ok (.ior, 1) := by decide +kernel
theorem dX12_readLine_174 : decode cX12_readLine 174 = .ok (.putfield 391, 3) := by decide +kernel
theorem dX12_readLine_177 : decode cX12_readLine 177 = .ok (.aload_n 0, 1) := by decide +kernel
theorem dX12_readLine_178 : decode cX12_readLine 178 = .ok (.aload_n 0, 1) := by decide +kernel
theorem dX12_readLine_179 : decode cX12_readLine 179 = .ok (.ldc2_w 243, 3) := by decide +kernel
theorem dX12_readLine_182 : decode cX12_readLine 182 = .ok (.iconst 0, 1) := by decide +kernel
theorem dX12_readLine_183 : decode cX12_readLine 183 = .ok (.sipush 999, 3) := by decide +kernel
theorem dX12_readLine_186 : decode cX12_readLine 186 = .ok (.invokevirtual 372, 3) := by decide +kernel
theorem dX12_readLine_189 : decode cX12_readLine 189 = .ok (.putfield 416, 3) := by decide +kernel
theorem dX12_readLine_192 : decode cX12_readLine 192 = .ok (.goto 8, 3) := by decide +kernel
theorem dX12_readLine_195 : decode cX12_readLine 195 = .ok (.aload_n 0, 1) := by decide +kernel
theorem dX12_readLine_196 : decode cX12_readLine 196 = .ok (.iconst 2, 1) := by decide +kernel
theorem dX12_readLine_197 : decode cX12_readLine 197 = .ok (.invokevirtual 282, 3) := by decide +kernel
theorem dX12_readLine_200 : decode cX12_readLine 200 = .ok (.aload_n 0, 1) := by decide +kernel
theorem dX12_readLine_201 : decode cX12_readLine 201 = .ok (.getfield 218, 3) := by decide +kernel
theorem dX12_readLine_204 : decode cX12_readLine 204 = .ok (.ifCond .ne 17, 3) := by decide +kernel
theorem dX12_readLine_207 : decode cX12_readLine 207 = .ok (.aload_n 0, 1) := by decide +kernel
theorem dX12_readLine_208 : decode cX12_readLine 208 = .ok (.getfield 205, 3) := by decide +kernel
theorem dX12_readLine_211 : decode cX12_readLine 211 = .ok (.bipush 59, 2) := by decide +kernel
theorem dX12_readLine_213 : decode cX12_readLine 213 = .ok (.if_icmp .eq 8, 3) := by decide +kernel
theorem dX12_readLine_216 : decode cX12_readLine 216 = .ok (.aload_n 0, 1) := by decide +kernel
theorem dX12_readLine_217 : decode cX12_readLine 217 = .ok (.iconst 2, 1) := by decide +kernel
theorem dX12_readLine_218 : decode cX12_readLine 218 = .ok (.invokevirtual 282, 3) := by decide +kernel
theorem dX12_readLine_221 : decode cX12_readLine 221 = .ok (.aload_n 0, 1) := by decide +kernel
theorem dX12_readLine_222 : decode cX12_readLine 222 = .ok (.getfield 218, 3) := by decide +kernel
theorem dX12_readLine_225 : decode cX12_readLine 225 = .ok (.ifCond .ne 7, 3) := by decide +kernel
theorem dX12_readLine_228 : decode cX12_readLine 228 = .ok (.aload_n 0, 1) := by decide +kernel
theorem dX12_readLine_229 : decode cX12_readLine 229 = .ok (.invokevirtual 279, 3) := by decide +kernel
theorem dX12_readLine_232 : decode cX12_readLine 232 = .ok (.return_, 1) := by decide +kernel
theorem dX12_readSlip_0 : decode cX12_readSlip 0 = .ok (.aload_n 0, 1) := by decide +kernel
theorem dX12_readSlip_1 : decode cX12_readSlip 1 = .ok (.invokevirtual 279, 3) := by decide +kernel
theorem dX12_readSlip_4 : decode cX12_readSlip 4 = .ok (.aload_n 0, 1) := by decide +kernel
theorem dX12_readSlip_5 : decode cX12_readSlip 5 = .ok (.getfield 72, 3) := by decide +kernel
theorem dX12_readSlip_8 : decode cX12_readSlip 8 = .ok (.iconst 0, 1) := by decide +kernel
theorem dX12_readSlip_9 : decode cX12_readSlip 9 = .ok (.aload_n 0, 1) := by decide +kernel
theorem dX12_readSlip_10 : decode cX12_readSlip 10 = .ok (.iconst 0, 1) := by decide +kernel
theorem dX12_readSlip_11 : decode cX12_readSlip 11 = .ok (.bipush 9, 2) := by decide +kernel
theorem dX12_readSlip_13 : decode cX12_readSlip 13 = .ok (.invokevirtual 289, 3) := by decide +kernel
theorem dX12_readSlip_16 : decode cX12_readSlip 16 = .ok (.iastore, 1) := by decide +kernel
theorem dX12_readSlip_17 : decode cX12_readSlip 17 = .ok (.aload_n 0, 1) := by decide +kernel
theorem dX12_readSlip_18 : decode cX12_readSlip 18 = .ok (.getfield 72, 3) := by decide +kernel
theorem dX12_readSlip_21 : decode cX12_readSlip 21 = .ok (.iconst 1, 1) := by decide +kernel
theorem dX12_readSlip_22 : decode cX12_readSlip 22 = .ok (.aload_n 0, 1) := by decide +kernel
theorem dX12_readSlip_23 : decode cX12_readSlip 23 = .ok (.iconst 0, 1) := by decide +kernel
theorem dX12_readSlip_24 : decode cX12_readSlip 24 = .ok (.bipush 9, 2) := by decide +kernel
theorem dX12_readSlip_26 : decode cX12_readSlip 26 = .ok (.invokevirtual 289, 3) := by decide +kernel
theorem dX12_readSlip_29 : decode cX12_readSlip 29 = .ok (.iastore, 1) := by decide +kernel
theorem dX12_readSlip_30 : decode cX12_readSlip 30 = .ok (.aload_n 0, 1) := by decide +kernel
theorem dX12_readSlip_31 : decode cX12_readSlip 31 = .ok (.getfield 72, 3) := by decide +kernel
theorem dX12_readSlip_34 : decode cX12_readSlip 34 = .ok (.iconst 2, 1) := by decide +kernel
theorem dX12_readSlip_35 : decode cX12_readSlip 35 = .ok (.aload_n 0, 1) := by decide +kernel
theorem dX12_readSlip_36 : decode cX12_readSlip 36 = .ok (.aload_n 0, 1) := by decide +kernel
theorem dX12_readSlip_37 : decode cX12_readSlip 37 = .ok (.getfield 72, 3) := by decide +kernel
theorem dX12_readSlip_40 : decode cX12_readSlip 40 = .ok (.iconst 0, 1) := by decide +kernel
theorem dX12_readSlip_41 : decode cX12_readSlip 41 = .ok (.iaload, 1) := by decide +kernel
theorem dX12_readSlip_42 : decode cX12_readSlip 42 = .ok (.aload_n 0, 1) := by decide +kernel
theorem dX12_readSlip_43 : decode cX12_readSlip 43 = .ok (.getfield 72, 3) := by decide +kernel
theorem dX12_readSlip_46 : decode cX12_readSlip 46 = .ok (.iconst 1, 1) := by decide +kernel
theorem dX12_readSlip_47 : decode cX12_readSlip 47 = .ok (.iaload, 1) := by decide +kernel
theorem dX12_readSlip_48 : decode cX12_readSlip 48 = .ok (.iadd, 1) := by decide +kernel
theorem dX12_readSlip_49 : decode cX12_readSlip 49 = .ok (.ifCond .ne 7, 3) := by decide +kernel
theorem dX12_readSlip_52 : decode cX12_readSlip 52 = .ok (.iconst 1, 1) := by decide +kernel
theorem dX12_readSlip_53 : decode cX12_readSlip 53 = .ok (.goto 4, 3) := by decide +kernel
theorem dX12_readSlip_56 : decode cX12_readSlip 56 = .ok (.iconst 0, 1) := by decide +kernel
theorem dX12_readSlip_57 : decode cX12_readSlip 57 = .ok (.bipush 9, 2) := by decide +kernel
theorem dX12_readSlip_59 : decode cX12_readSlip 59 = .ok (.invokevirtual 289, 3) := by decide +kernel
theorem dX12_readSlip_62 : decode cX12_readSlip 62 = .ok (.iastore, 1) := by decide +kernel
theorem dX12_readSlip_63 : decode cX12_readSlip 63 = .ok (.return_, 1) := by decide +kernel
set_option maxHeartbeats 4000000 in
set_option maxRecDepth 100000 in
theorem n_readSlip (l : Launch) (D : va_G) (k : KT) (A : Nat → Prop) (a : Nat → Nat) (z : SK) (G : GS)  (hnf : (G.1 66 2).toInt = 0) : Met l yX12_readSlip (WS yX12_readSlip cX12_readSlip 1 none) ({ frames := 3, cells := 0, slots := 0, locals := 66 }) (va_Pc [.ref (a 66)] (cW D k A a z G)) (va_Qv (fun (G1 : GS) => Q_readSlip G G1) (fun (G1 : GS) t => Wd D k A a G1 t.heap) A) 0 0 A := by
  refine Met.ofW (cc := cX12_readSlip) (maxL := 1) (ret := none) (by decide) rfl ?_
  intro p e s m args below meth c s₁ B hml hv
  obtain ⟨rfl, hW, hB_G, hK, hZ⟩ := hv
  have hx := B.exec
  have hb := B.bytes
  have hr := B.returns
  have hts := atoms_spec (ws := WS yX12_readSlip cX12_readSlip 1 none) B.pre
  have hgd : ∀ w ∈ gd, w ∈ WS yX12_readSlip cX12_readSlip 1 none := fun w h => List.mem_cons_of_mem _ h
  have hg : ∀ w ∈ gd, w.before _ s = true := fun w h => hts w (hgd w h)
  have hown : s.vm.findClass RX12 = some m.cls := findClass_of_methodNamed B.named
  have hS : va_S A s.heap s.heap [] := va_S.rf
  have hF : Fr [86] [(66, 2), (66, 3), (66, 4), (66, 6), (66, 7), (66, 8), (66, 9)] G G := Fr.rf
  have hl := lv_entry ([.ref (a 66)]) (n := 1) (Nat.le_of_ble_eq_true rfl)
  rw [lg_entry_eq]
  generalize (lg_sl ([.ref (a 66)]) ++ List.replicate (1 - (lg_sl ([.ref (a 66)])).length) Slot.unset).toArray = ls at hl ⊢
  have hl : lv_has ls 1 [(0, .ref (a 66))] := hl
  refine lv_aload_n hx hb dX12_readSlip_0 rfl (lv_at hl 0 rfl) ?_
  refine S_callv (va_runV (As := []) (rest := []) ⟨hx, hb, hml, hown, hts⟩ (n_token l D k A a z G  ) (cwV 0 hts (gd_V hgd m1602 m1604 m50 m131 m1605) rfl rfl rfl (by decide +kernel) ⟨Nat.le_of_ble_eq_true rfl, Nat.le_of_ble_eq_true rfl⟩) (pre_V hW hB_G hK hZ hS kd_66 rfl) rfl rfl hl.1 rfl (lv_room (Nat.le_of_ble_eq_true rfl)) dX12_readSlip_1 ⟨Nat.le_of_ble_eq_true rfl, Nat.le_of_ble_eq_true rfl⟩) hS (fun G_2 H locs hpo hW hS => ?_)
  have hX_5 : Q_token G G_2 := hpo
  obtain ⟨hB_G_2, hq_3, hp_4, -⟩ := hpo
  have hF := hF.call hq_3 (by decide) (by decide)
  refine lv_aload_n hx hb dX12_readSlip_4 rfl (lv_at hl 0 rfl) ?_
  refine S_getR (n := 86) (C := RX12) (T := TX12) (N := 89) hx hb hg iX12 hown hK hW kd_66 rfl 34 (by decide) (hg (Cond.fieldLink RX12 72 "SlabWalkModel" "nSlips" "[I") m1348) (fun _ h9 => h9) rfl dX12_readSlip_5 ?_
  refine lv_iconst (v := 0) hx hb dX12_readSlip_8 (by decide) ?_
  refine lv_aload_n hx hb dX12_readSlip_9 rfl (lv_at hl 0 rfl) ?_
  refine lv_iconst (v := 0) hx hb dX12_readSlip_10 (by decide) ?_
  refine lv_bipush (v := 9) hx hb dX12_readSlip_11 (by decide) ?_
  have qc_6 : (0 : Int32).toInt = 0 := rfl
  have qc_7 : (9 : Int32).toInt = 9 := rfl
  have b_8 : 0 ≤ (G.1 66 2).toInt ∧ (G.1 66 2).toInt ≤ 4 := hB_G.i 66 2 rfl rfl
  have g_9 : (G_2.1 66 2).toInt = (G.1 66 2).toInt := by rw [show G_2.1 66 2 = (G.1 66 2) from (hq_3.i 66 2 (by decide) (by decide))]
  have b_10 : 0 ≤ (G_2.1 66 4).toInt ∧ (G_2.1 66 4).toInt ≤ 1600 := hB_G_2.i 66 4 rfl rfl
  refine S_calli (va_runV (As := [.int 0, .int 9]) (rest := [.int 0, .ref (a 86)]) ⟨hx, hb, hml, hown, hts⟩ (n_told l D k A a z G_2 0 9 ) (cwV 2 hts (gd_V hgd m1682 m1684 m62 m131 m1685) rfl rfl rfl (by decide +kernel) ⟨Nat.le_of_ble_eq_true rfl, Nat.le_of_ble_eq_true rfl⟩) (pre_V hW hB_G_2 hK hZ hS kd_66 rfl) rfl rfl hl.1 rfl (lv_room (Nat.le_of_ble_eq_true rfl)) dX12_readSlip_13 ⟨Nat.le_of_ble_eq_true rfl, Nat.le_of_ble_eq_true rfl⟩) hS (fun r_11 G_12 H locs hpo hW hS => ?_)
  have hX_15 : Q_told 0 9 G_2 r_11 G_12 := hpo
  obtain ⟨hB_G_12, hq_13, hp_14, -⟩ := hpo
  have hF := hF.call hq_13 (by decide) (by decide)
  refine S_iast hx hb hK hW hS kd_86 (vin (by decide) (by decide)) dX12_readSlip_16 (fun G_16 H locs eG_16 hW hS => ?_)
  have hB_G_16 : Bd G_16 := hB_G_12.put (lo := (-2147483648)) (hi := 2147483647) eG_16 rfl rfl rfl (tI_rng _).1 (tI_rng _).2 (hB_G_12.2.put eG_16 rfl)
  have hF := hF.put eG_16 (Or.inl (by decide))
  refine lv_aload_n hx hb dX12_readSlip_17 rfl (lv_at hl 0 rfl) ?_
  refine S_getR (n := 86) (C := RX12) (T := TX12) (N := 89) hx hb hg iX12 hown hK hW kd_66 rfl 34 (by decide) (hg (Cond.fieldLink RX12 72 "SlabWalkModel" "nSlips" "[I") m1348) (fun _ h9 => h9) rfl dX12_readSlip_18 ?_
  refine lv_iconst (v := 1) hx hb dX12_readSlip_21 (by decide) ?_
  refine lv_aload_n hx hb dX12_readSlip_22 rfl (lv_at hl 0 rfl) ?_
  refine lv_iconst (v := 0) hx hb dX12_readSlip_23 (by decide) ?_
  refine lv_bipush (v := 9) hx hb dX12_readSlip_24 (by decide) ?_
  have qc_17 : (0 : Int32).toInt = 0 := rfl
  have qc_18 : (9 : Int32).toInt = 9 := rfl
  have b_19 : 0 ≤ (G_12.1 66 2).toInt ∧ (G_12.1 66 2).toInt ≤ 4 := hB_G_12.i 66 2 rfl rfl
  have g_20 : (G_16.1 66 2).toInt = (G_12.1 66 2).toInt := by rw [show G_16.1 66 2 = (G_12.1 66 2) from (gp_ne eG_16 (fun q => absurd q.1 (by decide)))]
  have b_21 : 0 ≤ (G_12.1 66 4).toInt ∧ (G_12.1 66 4).toInt ≤ 1600 := hB_G_12.i 66 4 rfl rfl
  have g_22 : (G_16.1 66 4).toInt = (G_12.1 66 4).toInt := by rw [show G_16.1 66 4 = (G_12.1 66 4) from (gp_ne eG_16 (fun q => absurd q.1 (by decide)))]
  have g_23 : (G_16.1 66 6).toInt = (G_12.1 66 6).toInt := by rw [show G_16.1 66 6 = (G_12.1 66 6) from (gp_ne eG_16 (fun q => absurd q.1 (by decide)))]
  refine S_calli (va_runV (As := [.int 0, .int 9]) (rest := [.int 1, .ref (a 86)]) ⟨hx, hb, hml, hown, hts⟩ (n_told l D k A a z G_16 0 9 ) (cwV 2 hts (gd_V hgd m1682 m1684 m62 m131 m1685) rfl rfl rfl (by decide +kernel) ⟨Nat.le_of_ble_eq_true rfl, Nat.le_of_ble_eq_true rfl⟩) (pre_V hW hB_G_16 hK hZ hS kd_66 rfl) rfl rfl hl.1 rfl (lv_room (Nat.le_of_ble_eq_true rfl)) dX12_readSlip_26 ⟨Nat.le_of_ble_eq_true rfl, Nat.le_of_ble_eq_true rfl⟩) hS (fun r_24 G_25 H locs hpo hW hS => ?_)
  have hX_28 : Q_told 0 9 G_16 r_24 G_25 := hpo
  obtain ⟨hB_G_25, hq_26, hp_27, -⟩ := hpo
  have hF := hF.call hq_26 (by decide) (by decide)
  refine S_iast hx hb hK hW hS kd_86 (vin (by decide) (by decide)) dX12_readSlip_29 (fun G_29 H locs eG_29 hW hS => ?_)
  have hB_G_29 : Bd G_29 := hB_G_25.put (lo := (-2147483648)) (hi := 2147483647) eG_29 rfl rfl rfl (tI_rng _).1 (tI_rng _).2 (hB_G_25.2.put eG_29 rfl)
  have hF := hF.put eG_29 (Or.inl (by decide))
  refine lv_aload_n hx hb dX12_readSlip_30 rfl (lv_at hl 0 rfl) ?_
  refine S_getR (n := 86) (C := RX12) (T := TX12) (N := 89) hx hb hg iX12 hown hK hW kd_66 rfl 34 (by decide) (hg (Cond.fieldLink RX12 72 "SlabWalkModel" "nSlips" "[I") m1348) (fun _ h9 => h9) rfl dX12_readSlip_31 ?_
  refine lv_iconst (v := 2) hx hb dX12_readSlip_34 (by decide) ?_
  refine lv_aload_n hx hb dX12_readSlip_35 rfl (lv_at hl 0 rfl) ?_
  refine lv_aload_n hx hb dX12_readSlip_36 rfl (lv_at hl 0 rfl) ?_
  refine S_getR (n := 86) (C := RX12) (T := TX12) (N := 89) hx hb hg iX12 hown hK hW kd_66 rfl 34 (by decide) (hg (Cond.fieldLink RX12 72 "SlabWalkModel" "nSlips" "[I") m1348) (fun _ h9 => h9) rfl dX12_readSlip_37 ?_
  refine lv_iconst (v := 0) hx hb dX12_readSlip_40 (by decide) ?_
  refine S_iald hx hb hK hW kd_86 (vin (by decide) (by decide)) dX12_readSlip_41 (fun y_30 ey_30 => ?_)
  have u_31 : y_30.toInt = r_11.toInt := congrArg Int32.toInt (ey_30.trans (((gp_ne eG_29 (fun q => absurd q.2 (by decide))).trans ((hq_26.i 86 0 (by decide) (by decide)).trans (gp_eq eG_16)))))
  refine lv_aload_n hx hb dX12_readSlip_42 rfl (lv_at hl 0 rfl) ?_
  refine S_getR (n := 86) (C := RX12) (T := TX12) (N := 89) hx hb hg iX12 hown hK hW kd_66 rfl 34 (by decide) (hg (Cond.fieldLink RX12 72 "SlabWalkModel" "nSlips" "[I") m1348) (fun _ h9 => h9) rfl dX12_readSlip_43 ?_
  refine lv_iconst (v := 1) hx hb dX12_readSlip_46 (by decide) ?_
  refine S_iald hx hb hK hW kd_86 (vin (by decide) (by decide)) dX12_readSlip_47 (fun y_32 ey_32 => ?_)
  have u_33 : y_32.toInt = r_24.toInt := congrArg Int32.toInt (ey_32.trans ((gp_eq eG_29)))
  refine lv_iadd hx hb dX12_readSlip_48 ?_
  refine lv_topi (fun y_34 ey_34 => ?_)
  have u_35 := xI_addC ey_34
  refine lv_if_ne (tgt := 56) hx hb dX12_readSlip_49 (by decide) (fun c_36 => ?_) (fun c_36 => ?_)
  · have c_36 : y_34.toInt ≠ 0 := xI_ne rfl rfl c_36
    refine lv_iconst (v := 0) hx hb dX12_readSlip_56 (by decide) ?_
    refine lv_bipush (v := 9) hx hb dX12_readSlip_57 (by decide) ?_
    have qc_37 : (0 : Int32).toInt = 0 := rfl
    have qc_38 : (9 : Int32).toInt = 9 := rfl
    have b_39 : 0 ≤ (G_25.1 66 2).toInt ∧ (G_25.1 66 2).toInt ≤ 4 := hB_G_25.i 66 2 rfl rfl
    have g_40 : (G_29.1 66 2).toInt = (G_25.1 66 2).toInt := by rw [show G_29.1 66 2 = (G_25.1 66 2) from (gp_ne eG_29 (fun q => absurd q.1 (by decide)))]
    have b_41 : 0 ≤ (G_25.1 66 4).toInt ∧ (G_25.1 66 4).toInt ≤ 1600 := hB_G_25.i 66 4 rfl rfl
    have g_42 : (G_29.1 66 4).toInt = (G_25.1 66 4).toInt := by rw [show G_29.1 66 4 = (G_25.1 66 4) from (gp_ne eG_29 (fun q => absurd q.1 (by decide)))]
    have g_43 : (G_29.1 66 6).toInt = (G_25.1 66 6).toInt := by rw [show G_29.1 66 6 = (G_25.1 66 6) from (gp_ne eG_29 (fun q => absurd q.1 (by decide)))]
    refine S_calli (va_runV (As := [.int 0, .int 9]) (rest := [.int 2, .ref (a 86)]) ⟨hx, hb, hml, hown, hts⟩ (n_told l D k A a z G_29 0 9 ) (cwV 2 hts (gd_V hgd m1682 m1684 m62 m131 m1685) rfl rfl rfl (by decide +kernel) ⟨Nat.le_of_ble_eq_true rfl, Nat.le_of_ble_eq_true rfl⟩) (pre_V hW hB_G_29 hK hZ hS kd_66 rfl) rfl rfl hl.1 rfl (lv_room (Nat.le_of_ble_eq_true rfl)) dX12_readSlip_59 ⟨Nat.le_of_ble_eq_true rfl, Nat.le_of_ble_eq_true rfl⟩) hS (fun r_44 G_45 H locs hpo hW hS => ?_)
    have hX_48 : Q_told 0 9 G_29 r_44 G_45 := hpo
    obtain ⟨hB_G_45, hq_46, hp_47, -⟩ := hpo
    have hF := hF.call hq_46 (by decide) (by decide)
    refine S_iast hx hb hK hW hS kd_86 (vin (by decide) (by decide)) dX12_readSlip_62 (fun G_49 H locs eG_49 hW hS => ?_)
    have hB_G_49 : Bd G_49 := hB_G_45.put (lo := (-2147483648)) (hi := 2147483647) eG_49 rfl rfl rfl (tI_rng _).1 (tI_rng _).2 (hB_G_45.2.put eG_49 rfl)
    have hF := hF.put eG_49 (Or.inl (by decide))
    have b_50 : 0 ≤ (G_45.1 66 2).toInt ∧ (G_45.1 66 2).toInt ≤ 4 := hB_G_45.i 66 2 rfl rfl
    have g_51 : (G_49.1 66 2).toInt = (G_45.1 66 2).toInt := by rw [show G_49.1 66 2 = (G_45.1 66 2) from (gp_ne eG_49 (fun q => absurd q.1 (by decide)))]
    have b_52 : 0 ≤ (G_45.1 66 4).toInt ∧ (G_45.1 66 4).toInt ≤ 1600 := hB_G_45.i 66 4 rfl rfl
    have g_53 : (G_49.1 66 4).toInt = (G_45.1 66 4).toInt := by rw [show G_49.1 66 4 = (G_45.1 66 4) from (gp_ne eG_49 (fun q => absurd q.1 (by decide)))]
    have g_54 : (G_49.1 66 6).toInt = (G_45.1 66 6).toInt := by rw [show G_49.1 66 6 = (G_45.1 66 6) from (gp_ne eG_49 (fun q => absurd q.1 (by decide)))]
    have g_55 : (G_49.1 86 0).toInt = y_30.toInt := by rw [show G_49.1 86 0 = y_30 from ((gp_ne eG_49 (fun q => absurd q.2 (by decide))).trans ((hq_46.i 86 0 (by decide) (by decide)).trans (ey_30.symm)))]
    have g_56 : (G_49.1 86 1).toInt = y_32.toInt := by rw [show G_49.1 86 1 = y_32 from ((gp_ne eG_49 (fun q => absurd q.2 (by decide))).trans ((hq_46.i 86 1 (by decide) (by decide)).trans (ey_32.symm)))]
    have g_57 : (G_49.1 86 2).toInt = r_44.toInt := by rw [show G_49.1 86 2 = r_44 from (gp_eq eG_49)]
    exact W.vret hx hb hr (fun t ht _ => ⟨⟨G_49, rfl, (Q_readSlip_mk ⟨hB_G_49, hF, (by omega), ⟨G_2, hX_5, ⟨r_11, G_12, hX_15, ⟨G_16, hB_G_16, (Fr.rf.put eG_16 (Or.inl (by decide))), rw_ast eG_16, ⟨r_24, G_25, hX_28, ⟨y_30, ey_30.trans (congrFun (rw_ast eG_29) _), ⟨y_32, ey_32.trans (congrFun (rw_ast eG_29) _), ⟨y_34, ey_34, (Or.inr ⟨c_36, ⟨G_29, hB_G_29, (Fr.rf.put eG_29 (Or.inl (by decide))), rw_ast eG_29, ⟨r_44, G_45, hX_48, ⟨(Fr.rf.put eG_49 (Or.inl (by decide))), rw_ast eG_49⟩⟩⟩⟩)⟩⟩⟩⟩⟩⟩⟩⟩), wd_t ht hW⟩, hS.F ht⟩) hS.2.2 dX12_readSlip_63
  · have c_36 : y_34.toInt = 0 := xI_eq rfl rfl c_36
    refine lv_iconst (v := 1) hx hb dX12_readSlip_52 (by decide) ?_
    refine lv_goto (tgt := 57) hx hb dX12_readSlip_53 (by decide) ?_
    refine lv_bipush (v := 9) hx hb dX12_readSlip_57 (by decide) ?_
    have qc_58 : (1 : Int32).toInt = 1 := rfl
    have qc_59 : (9 : Int32).toInt = 9 := rfl
    have b_60 : 0 ≤ (G_25.1 66 2).toInt ∧ (G_25.1 66 2).toInt ≤ 4 := hB_G_25.i 66 2 rfl rfl
    have g_61 : (G_29.1 66 2).toInt = (G_25.1 66 2).toInt := by rw [show G_29.1 66 2 = (G_25.1 66 2) from (gp_ne eG_29 (fun q => absurd q.1 (by decide)))]
    have b_62 : 0 ≤ (G_25.1 66 4).toInt ∧ (G_25.1 66 4).toInt ≤ 1600 := hB_G_25.i 66 4 rfl rfl
    have g_63 : (G_29.1 66 4).toInt = (G_25.1 66 4).toInt := by rw [show G_29.1 66 4 = (G_25.1 66 4) from (gp_ne eG_29 (fun q => absurd q.1 (by decide)))]
    have g_64 : (G_29.1 66 6).toInt = (G_25.1 66 6).toInt := by rw [show G_29.1 66 6 = (G_25.1 66 6) from (gp_ne eG_29 (fun q => absurd q.1 (by decide)))]
    refine S_calli (va_runV (As := [.int 1, .int 9]) (rest := [.int 2, .ref (a 86)]) ⟨hx, hb, hml, hown, hts⟩ (n_told l D k A a z G_29 1 9 ) (cwV 2 hts (gd_V hgd m1682 m1684 m62 m131 m1685) rfl rfl rfl (by decide +kernel) ⟨Nat.le_of_ble_eq_true rfl, Nat.le_of_ble_eq_true rfl⟩) (pre_V hW hB_G_29 hK hZ hS kd_66 rfl) rfl rfl hl.1 rfl (lv_room (Nat.le_of_ble_eq_true rfl)) dX12_readSlip_59 ⟨Nat.le_of_ble_eq_true rfl, Nat.le_of_ble_eq_true rfl⟩) hS (fun r_65 G_66 H locs hpo hW hS => ?_)
    have hX_69 : Q_told 1 9 G_29 r_65 G_66 := hpo
    obtain ⟨hB_G_66, hq_67, hp_68, -⟩ := hpo
    have hF := hF.call hq_67 (by decide) (by decide)
    refine S_iast hx hb hK hW hS kd_86 (vin (by decide) (by decide)) dX12_readSlip_62 (fun G_70 H locs eG_70 hW hS => ?_)
    have hB_G_70 : Bd G_70 := hB_G_66.put (lo := (-2147483648)) (hi := 2147483647) eG_70 rfl rfl rfl (tI_rng _).1 (tI_rng _).2 (hB_G_66.2.put eG_70 rfl)
    have hF := hF.put eG_70 (Or.inl (by decide))
    have b_71 : 0 ≤ (G_66.1 66 2).toInt ∧ (G_66.1 66 2).toInt ≤ 4 := hB_G_66.i 66 2 rfl rfl
    have g_72 : (G_70.1 66 2).toInt = (G_66.1 66 2).toInt := by rw [show G_70.1 66 2 = (G_66.1 66 2) from (gp_ne eG_70 (fun q => absurd q.1 (by decide)))]
    have b_73 : 0 ≤ (G_66.1 66 4).toInt ∧ (G_66.1 66 4).toInt ≤ 1600 := hB_G_66.i 66 4 rfl rfl
    have g_74 : (G_70.1 66 4).toInt = (G_66.1 66 4).toInt := by rw [show G_70.1 66 4 = (G_66.1 66 4) from (gp_ne eG_70 (fun q => absurd q.1 (by decide)))]
    have g_75 : (G_70.1 66 6).toInt = (G_66.1 66 6).toInt := by rw [show G_70.1 66 6 = (G_66.1 66 6) from (gp_ne eG_70 (fun q => absurd q.1 (by decide)))]
    have g_76 : (G_70.1 86 0).toInt = y_30.toInt := by rw [show G_70.1 86 0 = y_30 from ((gp_ne eG_70 (fun q => absurd q.2 (by decide))).trans ((hq_67.i 86 0 (by decide) (by decide)).trans (ey_30.symm)))]
    have g_77 : (G_70.1 86 1).toInt = y_32.toInt := by rw [show G_70.1 86 1 = y_32 from ((gp_ne eG_70 (fun q => absurd q.2 (by decide))).trans ((hq_67.i 86 1 (by decide) (by decide)).trans (ey_32.symm)))]
    have g_78 : (G_70.1 86 2).toInt = r_65.toInt := by rw [show G_70.1 86 2 = r_65 from (gp_eq eG_70)]
    exact W.vret hx hb hr (fun t ht _ => ⟨⟨G_70, rfl, (Q_readSlip_mk ⟨hB_G_70, hF, (by omega), ⟨G_2, hX_5, ⟨r_11, G_12, hX_15, ⟨G_16, hB_G_16, (Fr.rf.put eG_16 (Or.inl (by decide))), rw_ast eG_16, ⟨r_24, G_25, hX_28, ⟨y_30, ey_30.trans (congrFun (rw_ast eG_29) _), ⟨y_32, ey_32.trans (congrFun (rw_ast eG_29) _), ⟨y_34, ey_34, (Or.inl ⟨c_36, ⟨G_29, hB_G_29, (Fr.rf.put eG_29 (Or.inl (by decide))), rw_ast eG_29, ⟨r_65, G_66, hX_69, ⟨(Fr.rf.put eG_70 (Or.inl (by decide))), rw_ast eG_70⟩⟩⟩⟩)⟩⟩⟩⟩⟩⟩⟩⟩), wd_t ht hW⟩, hS.F ht⟩) hS.2.2 dX12_readSlip_63

set_option maxHeartbeats 4000000 in
set_option maxRecDepth 100000 in
theorem n_isOnce (l : Launch) (D : va_G) (k : KT) (A : Nat → Prop) (a : Nat → Nat) (z : SK) (G : GS) (p0 : Int64) (p1 : Int32)  : Met l yX12_isOnce (WS yX12_isOnce cX12_isOnce 4 (some .boolean)) ({ frames := 1, cells := 0, slots := 0, locals := 22 }) (va_Pc [.ref (a 66), .long p0, .int p1] (cW D k A a z G)) (va_Qi (fun (r : Int32) (G1 : GS) => Q_isOnce p0 p1 G r G1) (fun (G1 : GS) t => Wd D k A a G1 t.heap) A) 0 0 A := by
  refine Met.ofW (cc := cX12_isOnce) (maxL := 4) (ret := (some .boolean)) (by decide) rfl ?_
  intro p e s m args below meth c s₁ B hml hv
  obtain ⟨rfl, hW, hB_G, hK, hZ⟩ := hv
  have hx := B.exec
  have hb := B.bytes
  have hr := B.returns
  have hts := atoms_spec (ws := WS yX12_isOnce cX12_isOnce 4 (some .boolean)) B.pre
  have hgd : ∀ w ∈ gd, w ∈ WS yX12_isOnce cX12_isOnce 4 (some .boolean) := fun w h => List.mem_cons_of_mem _ h
  have hg : ∀ w ∈ gd, w.before _ s = true := fun w h => hts w (hgd w h)
  have hown : s.vm.findClass RX12 = some m.cls := findClass_of_methodNamed B.named
  have hS : va_S A s.heap s.heap [] := va_S.rf
  have hF : Fr [] [] G G := Fr.rf
  have hl := lv_entry ([.ref (a 66), .long p0, .int p1]) (n := 4) (Nat.le_of_ble_eq_true rfl)
  rw [lg_entry_eq]
  generalize (lg_sl ([.ref (a 66), .long p0, .int p1]) ++ List.replicate (4 - (lg_sl ([.ref (a 66), .long p0, .int p1])).length) Slot.unset).toArray = ls at hl ⊢
  have hl : lv_has ls 4 [(0, .ref (a 66)), (1, .long p0), (3, .int p1)] := hl
  refine lv_aload_n hx hb dX12_isOnce_0 rfl (lv_at hl 0 rfl) ?_
  refine lv_lload_n hx hb dX12_isOnce_1 rfl (lv_at hl 1 rfl) ?_
  refine S_calli (va_runV (As := [.long p0]) (rest := []) ⟨hx, hb, hml, hown, hts⟩ (n_isWord l D k A a z G p0 ) (cwV 1 hts (gd_V hgd m1624 m1626 m53 m131 m1627) rfl rfl rfl (by decide +kernel) ⟨Nat.le_of_ble_eq_true rfl, Nat.le_of_ble_eq_true rfl⟩) (pre_V hW hB_G hK hZ hS kd_66 rfl) rfl rfl hl.1 rfl (lv_room (Nat.le_of_ble_eq_true rfl)) dX12_isOnce_2 ⟨Nat.le_of_ble_eq_true rfl, Nat.le_of_ble_eq_true rfl⟩) hS (fun r_1 G_2 H locs hpo hW hS => ?_)
  have hX_5 : Q_isWord p0 G r_1 G_2 := hpo
  obtain ⟨hB_G_2, hq_3, f_6, hp_4, -⟩ := hpo
  have hF := hF.call hq_3 (by decide) (by decide)
  refine lv_if_eq (tgt := 21) hx hb dX12_isOnce_5 (by decide) (fun c_7 => ?_) (fun c_7 => ?_)
  · have c_7 : r_1.toInt = 0 := xI_eq rfl rfl c_7
    refine lv_iconst (v := 0) hx hb dX12_isOnce_21 (by decide) ?_
    exact W.zret (v := 0) hx hb hr (by decide) (fun t ht _ => ⟨⟨0, G_2, rfl, (Q_isOnce_mk ⟨hB_G_2, hF, ⟨by decide, by decide⟩, (by have hq : (0 : Int32).toInt = 0 := rfl; (try dsimp only); omega), ⟨r_1, G_2, hX_5, (Or.inl ⟨c_7, ⟨rfl, rfl⟩⟩)⟩⟩), wd_t ht hW⟩, hS.F ht⟩) hS.2.2 dX12_isOnce_22
  · have c_7 : r_1.toInt ≠ 0 := xI_ne rfl rfl c_7
    refine lv_aload_n hx hb dX12_isOnce_8 rfl (lv_at hl 0 rfl) ?_
    refine S_getI (v := (G.1 66 51)) (C := RX12) (T := TX12) (N := 89) hx hb hg iX12 hown hK hW kd_66 rfl 51 (by decide) (hg (Cond.fieldLink RX12 391 "SlabWalkModel" "nOnce" "I") m1365) (fun _ h9 => h9) rfl (hq_3.i 66 51 (by decide) (by decide)) dX12_isOnce_9 ?_
    refine lv_iload_n hx hb dX12_isOnce_12 rfl (lv_at hl 2 rfl) ?_
    refine lv_iand hx hb dX12_isOnce_13 ?_
    refine lv_topi (fun y_8 ey_8 => ?_)
    refine lv_if_ne (tgt := 21) hx hb dX12_isOnce_14 (by decide) (fun c_9 => ?_) (fun c_9 => ?_)
    · have c_9 : y_8.toInt ≠ 0 := xI_ne rfl rfl c_9
      refine lv_iconst (v := 0) hx hb dX12_isOnce_21 (by decide) ?_
      exact W.zret (v := 0) hx hb hr (by decide) (fun t ht _ => ⟨⟨0, G_2, rfl, (Q_isOnce_mk ⟨hB_G_2, hF, ⟨by decide, by decide⟩, (by have hq : (0 : Int32).toInt = 0 := rfl; (try dsimp only); omega), ⟨r_1, G_2, hX_5, (Or.inr ⟨c_7, ⟨y_8, ey_8, (Or.inr ⟨c_9, ⟨rfl, rfl⟩⟩)⟩⟩)⟩⟩), wd_t ht hW⟩, hS.F ht⟩) hS.2.2 dX12_isOnce_22
    · have c_9 : y_8.toInt = 0 := xI_eq rfl rfl c_9
      refine lv_iconst (v := 1) hx hb dX12_isOnce_17 (by decide) ?_
      refine lv_goto (tgt := 22) hx hb dX12_isOnce_18 (by decide) ?_
      exact W.zret (v := 1) hx hb hr (by decide) (fun t ht _ => ⟨⟨1, G_2, rfl, (Q_isOnce_mk ⟨hB_G_2, hF, ⟨by decide, by decide⟩, (by have hq : (1 : Int32).toInt = 1 := rfl; (try dsimp only); omega), ⟨r_1, G_2, hX_5, (Or.inr ⟨c_7, ⟨y_8, ey_8, (Or.inl ⟨c_9, ⟨rfl, rfl⟩⟩)⟩⟩)⟩⟩), wd_t ht hW⟩, hS.F ht⟩) hS.2.2 dX12_isOnce_22

set_option maxHeartbeats 4000000 in
set_option maxRecDepth 100000 in
theorem n_readLine (l : Launch) (D : va_G) (k : KT) (A : Nat → Prop) (a : Nat → Nat) (z : SK) (G : GS)  (hnf : (G.1 66 2).toInt = 0) (hE9 : gE G = 1) (hN9 : gN G = 1) (hS9 : 0 ≤ (G.1 86 0).toInt ∧ (G.1 86 0).toInt ≤ 9 ∧ 0 ≤ (G.1 86 1).toInt ∧ (G.1 86 1).toInt ≤ 9 ∧ 0 ≤ (G.1 86 2).toInt ∧ (G.1 86 2).toInt ≤ 9 ∧ 1 ≤ (G.1 86 0).toInt + (G.1 86 1).toInt + (G.1 86 2).toInt) : Met l yX12_readLine (WS yX12_readLine cX12_readLine 1 none) ({ frames := 6, cells := 0, slots := 0, locals := 129 }) (va_Pc [.ref (a 66)] (cW D k A a z G)) (va_Qv (fun (G1 : GS) => Q_readLine G G1) (fun (G1 : GS) t => Wd D k A a G1 t.heap) A) 0 0 A := by
  refine Met.ofW (cc := cX12_readLine) (maxL := 1) (ret := none) (by decide) rfl ?_
  intro p e s m args below meth c s₁ B hml hv
  obtain ⟨rfl, hW, hB_G, hK, hZ⟩ := hv
  have hx := B.exec
  have hb := B.bytes
  have hr := B.returns
  have hts := atoms_spec (ws := WS yX12_readLine cX12_readLine 1 none) B.pre
  have hgd : ∀ w ∈ gd, w ∈ WS yX12_readLine cX12_readLine 1 none := fun w h => List.mem_cons_of_mem _ h
  have hg : ∀ w ∈ gd, w.before _ s = true := fun w h => hts w (hgd w h)
  have hown : s.vm.findClass RX12 = some m.cls := findClass_of_methodNamed B.named
  have hS : va_S A s.heap s.heap [] := va_S.rf
  have hF : Fr [68, 69, 70, 71, 75, 77, 78, 79, 80, 81, 82, 83, 84, 85, 86] [(66, 2), (66, 3), (66, 4), (66, 6), (66, 7), (66, 8), (66, 9), (66, 19), (66, 20), (66, 21), (66, 23), (66, 24), (66, 45), (66, 46), (66, 47), (66, 48), (66, 49), (66, 50), (66, 51)] G G := Fr.rf
  have hl := lv_entry ([.ref (a 66)]) (n := 1) (Nat.le_of_ble_eq_true rfl)
  rw [lg_entry_eq]
  generalize (lg_sl ([.ref (a 66)]) ++ List.replicate (1 - (lg_sl ([.ref (a 66)])).length) Slot.unset).toArray = ls at hl ⊢
  have hl : lv_has ls 1 [(0, .ref (a 66))] := hl
  refine lv_aload_n hx hb dX12_readLine_0 rfl (lv_at hl 0 rfl) ?_
  refine lv_ldc2 (v := 126943972648308) hx hb hown (hg (Cond.constantLong RX12 221 126943972648308) m1623) dX12_readLine_1 ?_
  refine S_calli (va_runV (As := [.long 126943972648308]) (rest := []) ⟨hx, hb, hml, hown, hts⟩ (n_isWord l D k A a z G 126943972648308 ) (cwV 1 hts (gd_V hgd m1624 m1626 m53 m131 m1627) rfl rfl rfl (by decide +kernel) ⟨Nat.le_of_ble_eq_true rfl, Nat.le_of_ble_eq_true rfl⟩) (pre_V hW hB_G hK hZ hS kd_66 rfl) rfl rfl hl.1 rfl (lv_room (Nat.le_of_ble_eq_true rfl)) dX12_readLine_4 ⟨Nat.le_of_ble_eq_true rfl, Nat.le_of_ble_eq_true rfl⟩) hS (fun r_1 G_2 H locs hpo hW hS => ?_)
  have hX_5 : Q_isWord 126943972648308 G r_1 G_2 := hpo
  obtain ⟨hB_G_2, hq_3, f_6, hp_4, -⟩ := hpo
  have hF := hF.call hq_3 (by decide) (by decide)
  refine W.cut (σ := Unit) (pcJ := 25) (J := fun y H locs ls => ∃ (G_8 : GS), Jn_n_readLine_1 r_1 G G_2 G_8 ∧ Wd D k A a G_8 H ∧ Bd G_8 ∧ Fr [68, 69, 70, 71, 75, 77, 78, 79, 80, 81, 82, 83, 84, 85, 86] [(66, 2), (66, 3), (66, 4), (66, 6), (66, 7), (66, 8), (66, 9), (66, 19), (66, 20), (66, 21), (66, 23), (66, 24), (66, 45), (66, 46), (66, 47), (66, 48), (66, 49), (66, 50), (66, 51)] G G_8 ∧ Fr [] [] G_2 G_8 ∧ va_S A s.heap H locs ∧ lv_has ls 1 [(0, .ref (a 66))]) (stJ := fun _ => []) ?_ (fun hJ_9 => ?_)
  · intro y H locs ls hI
    obtain ⟨G_8, hX_11, hW, hB_G_8, hF, hq_10, hS, hl⟩ := hI
    refine lv_aload_n hx hb dX12_readLine_25 rfl (lv_at hl 0 rfl) ?_
    refine lv_ldc2 (v := 131260314510706) hx hb hown (hg (Cond.constantLong RX12 225 131260314510706) m1645) dX12_readLine_26 ?_
    have g_12 : (G_8.1 66 6).toInt = (G.1 66 6).toInt := by rw [show G_8.1 66 6 = (G.1 66 6) from ((hq_10.i 66 6 (by decide) (by decide)).trans (hq_3.i 66 6 (by decide) (by decide)))]
    refine S_calli (va_runV (As := [.long 131260314510706]) (rest := []) ⟨hx, hb, hml, hown, hts⟩ (n_isWord l D k A a z G_8 131260314510706 ) (cwV 1 hts (gd_V hgd m1624 m1626 m53 m131 m1627) rfl rfl rfl (by decide +kernel) ⟨Nat.le_of_ble_eq_true rfl, Nat.le_of_ble_eq_true rfl⟩) (pre_V hW hB_G_8 hK hZ hS kd_66 rfl) rfl rfl hl.1 rfl (lv_room (Nat.le_of_ble_eq_true rfl)) dX12_readLine_29 ⟨Nat.le_of_ble_eq_true rfl, Nat.le_of_ble_eq_true rfl⟩) hS (fun r_13 G_14 H locs hpo hW hS => ?_)
    have hX_17 : Q_isWord 131260314510706 G_8 r_13 G_14 := hpo
    obtain ⟨hB_G_14, hq_15, f_18, hp_16, -⟩ := hpo
    have hF := hF.call hq_15 (by decide) (by decide)
    refine W.cut (σ := Unit) (pcJ := 50) (J := fun y H locs ls => ∃ (G_20 : GS), Jn_n_readLine_2 r_13 G G_14 G_20 ∧ Wd D k A a G_20 H ∧ Bd G_20 ∧ Fr [68, 69, 70, 71, 75, 77, 78, 79, 80, 81, 82, 83, 84, 85, 86] [(66, 2), (66, 3), (66, 4), (66, 6), (66, 7), (66, 8), (66, 9), (66, 19), (66, 20), (66, 21), (66, 23), (66, 24), (66, 45), (66, 46), (66, 47), (66, 48), (66, 49), (66, 50), (66, 51)] G G_20 ∧ Fr [] [] G_14 G_20 ∧ va_S A s.heap H locs ∧ lv_has ls 1 [(0, .ref (a 66))]) (stJ := fun _ => []) ?_ (fun hJ_21 => ?_)
    · intro y H locs ls hI
      obtain ⟨G_20, hX_23, hW, hB_G_20, hF, hq_22, hS, hl⟩ := hI
      refine lv_aload_n hx hb dX12_readLine_50 rfl (lv_at hl 0 rfl) ?_
      refine lv_ldc2 (v := 1920298085) hx hb hown (hg (Cond.constantLong RX12 235 1920298085) m1650) dX12_readLine_51 ?_
      have g_24 : (G_20.1 66 6).toInt = (G.1 66 6).toInt := by rw [show G_20.1 66 6 = (G.1 66 6) from ((hq_22.i 66 6 (by decide) (by decide)).trans ((hq_15.i 66 6 (by decide) (by decide)).trans ((hq_10.i 66 6 (by decide) (by decide)).trans ((hq_3.i 66 6 (by decide) (by decide)).trans (rfl)))))]
      refine S_calli (va_runV (As := [.long 1920298085]) (rest := []) ⟨hx, hb, hml, hown, hts⟩ (n_isWord l D k A a z G_20 1920298085 ) (cwV 1 hts (gd_V hgd m1624 m1626 m53 m131 m1627) rfl rfl rfl (by decide +kernel) ⟨Nat.le_of_ble_eq_true rfl, Nat.le_of_ble_eq_true rfl⟩) (pre_V hW hB_G_20 hK hZ hS kd_66 rfl) rfl rfl hl.1 rfl (lv_room (Nat.le_of_ble_eq_true rfl)) dX12_readLine_54 ⟨Nat.le_of_ble_eq_true rfl, Nat.le_of_ble_eq_true rfl⟩) hS (fun r_25 G_26 H locs hpo hW hS => ?_)
      have hX_29 : Q_isWord 1920298085 G_20 r_25 G_26 := hpo
      obtain ⟨hB_G_26, hq_27, f_30, hp_28, -⟩ := hpo
      have hF := hF.call hq_27 (by decide) (by decide)
      refine W.cut (σ := Unit) (pcJ := 76) (J := fun y H locs ls => ∃ (G_32 : GS), Jn_n_readLine_3 r_25 G G_26 G_32 ∧ Wd D k A a G_32 H ∧ Bd G_32 ∧ Fr [68, 69, 70, 71, 75, 77, 78, 79, 80, 81, 82, 83, 84, 85, 86] [(66, 2), (66, 3), (66, 4), (66, 6), (66, 7), (66, 8), (66, 9), (66, 19), (66, 20), (66, 21), (66, 23), (66, 24), (66, 45), (66, 46), (66, 47), (66, 48), (66, 49), (66, 50), (66, 51)] G G_32 ∧ Fr [] [] G_26 G_32 ∧ va_S A s.heap H locs ∧ lv_has ls 1 [(0, .ref (a 66))]) (stJ := fun _ => []) ?_ (fun hJ_33 => ?_)
      · intro y H locs ls hI
        obtain ⟨G_32, hX_35, hW, hB_G_32, hF, hq_34, hS, hl⟩ := hI
        refine lv_aload_n hx hb dX12_readLine_76 rfl (lv_at hl 0 rfl) ?_
        refine lv_ldc2 (v := 1936484720) hx hb hown (hg (Cond.constantLong RX12 237 1936484720) m1651) dX12_readLine_77 ?_
        refine lv_iconst (v := 1) hx hb dX12_readLine_80 (by decide) ?_
        have qc_36 : (1 : Int32).toInt = 1 := rfl
        have g_37 : (G_32.1 66 6).toInt = (G.1 66 6).toInt := by rw [show G_32.1 66 6 = (G.1 66 6) from ((hq_34.i 66 6 (by decide) (by decide)).trans ((hq_27.i 66 6 (by decide) (by decide)).trans ((hq_22.i 66 6 (by decide) (by decide)).trans ((hq_15.i 66 6 (by decide) (by decide)).trans ((hq_10.i 66 6 (by decide) (by decide)).trans ((hq_3.i 66 6 (by decide) (by decide)).trans (rfl)))))))]
        refine S_calli (va_runV (As := [.long 1936484720, .int 1]) (rest := []) ⟨hx, hb, hml, hown, hts⟩ (n_isOnce l D k A a z G_32 1936484720 1 ) (cwV 2 hts (gd_V hgd m1761 m1763 m81 m131 m1764) rfl rfl rfl (by decide +kernel) ⟨Nat.le_of_ble_eq_true rfl, Nat.le_of_ble_eq_true rfl⟩) (pre_V hW hB_G_32 hK hZ hS kd_66 rfl) rfl rfl hl.1 rfl (lv_room (Nat.le_of_ble_eq_true rfl)) dX12_readLine_81 ⟨Nat.le_of_ble_eq_true rfl, Nat.le_of_ble_eq_true rfl⟩) hS (fun r_38 G_39 H locs hpo hW hS => ?_)
        have hX_42 : Q_isOnce 1936484720 1 G_32 r_38 G_39 := hpo
        obtain ⟨hB_G_39, hq_40, f_43, hp_41, -⟩ := hpo
        have hF := hF.call hq_40 (by decide) (by decide)
        refine W.cut (σ := Unit) (pcJ := 200) (J := fun y H locs ls => ∃ (G_45 : GS), ((G.1 66 4).toInt ≤ (G_45.1 66 4).toInt ∧ ((G_45.1 66 4).toInt = (G.1 66 4).toInt → (G_45.1 66 6).toInt = (G.1 66 6).toInt ∨ (G_45.1 66 6).toInt ≤ 3)) ∧ ((G_45.1 66 2).toInt = 0 → (G.1 66 6).toInt = 1 ∧ gE G_45 = 1 ∧ gN G_45 = 1 ∧ 0 ≤ (G_45.1 86 0).toInt ∧ (G_45.1 86 0).toInt ≤ 9 ∧ 0 ≤ (G_45.1 86 1).toInt ∧ (G_45.1 86 1).toInt ≤ 9 ∧ 0 ≤ (G_45.1 86 2).toInt ∧ (G_45.1 86 2).toInt ≤ 9 ∧ 1 ≤ (G_45.1 86 0).toInt + (G_45.1 86 1).toInt + (G_45.1 86 2).toInt) ∧ Jn_n_readLine_4 r_38 G G_39 G_45 ∧ Wd D k A a G_45 H ∧ Bd G_45 ∧ Fr [68, 69, 70, 71, 75, 77, 78, 79, 80, 81, 82, 83, 84, 85, 86] [(66, 2), (66, 3), (66, 4), (66, 6), (66, 7), (66, 8), (66, 9), (66, 19), (66, 20), (66, 21), (66, 23), (66, 24), (66, 45), (66, 46), (66, 47), (66, 48), (66, 49), (66, 50), (66, 51)] G G_45 ∧ Fr [86] [(66, 2), (66, 3), (66, 4), (66, 6), (66, 7), (66, 8), (66, 9), (66, 48), (66, 49), (66, 50), (66, 51)] G_39 G_45 ∧ va_S A s.heap H locs ∧ lv_has ls 1 [(0, .ref (a 66))]) (stJ := fun _ => []) ?_ (fun hJ_46 => ?_)
        · intro y H locs ls hI
          obtain ⟨G_45, f_49, f_50, hX_48, hW, hB_G_45, hF, hq_47, hS, hl⟩ := hI
          have b_51 : 0 ≤ (G_45.1 66 4).toInt ∧ (G_45.1 66 4).toInt ≤ 1600 := hB_G_45.i 66 4 rfl rfl
          have g_52 : gE G_45 = gE G := gE_fr (rs := [86]) (fs := [(66, 2), (66, 3), (66, 4), (66, 6), (66, 7), (66, 8), (66, 9), (66, 48), (66, 49), (66, 50), (66, 51)]) ((((((((Fr.rf.call hq_3 (by decide) (by decide)).call hq_10 (by decide) (by decide)).call hq_15 (by decide) (by decide)).call hq_22 (by decide) (by decide)).call hq_27 (by decide) (by decide)).call hq_34 (by decide) (by decide)).call hq_40 (by decide) (by decide)).call hq_47 (by decide) (by decide)) (by decide) (by decide)
          have g_53 : gN G_45 = gN G := gN_fr (rs := [86]) (fs := [(66, 2), (66, 3), (66, 4), (66, 6), (66, 7), (66, 8), (66, 9), (66, 48), (66, 49), (66, 50), (66, 51)]) ((((((((Fr.rf.call hq_3 (by decide) (by decide)).call hq_10 (by decide) (by decide)).call hq_15 (by decide) (by decide)).call hq_22 (by decide) (by decide)).call hq_27 (by decide) (by decide)).call hq_34 (by decide) (by decide)).call hq_40 (by decide) (by decide)).call hq_47 (by decide) (by decide)) (by decide) (by decide)
          have b_54 : 0 ≤ (G_45.1 66 2).toInt ∧ (G_45.1 66 2).toInt ≤ 4 := hB_G_45.i 66 2 rfl rfl
          refine lv_aload_n hx hb dX12_readLine_200 rfl (lv_at hl 0 rfl) ?_
          refine S_getI (v := (G_45.1 66 2)) (C := RX12) (T := TX12) (N := 89) hx hb hg iX12 hown hK hW kd_66 rfl 2 (by decide) (hg (Cond.fieldLink RX12 218 "SlabWalkModel" "fault" "I") m1316) (fun _ h9 => h9) rfl rfl dX12_readLine_201 ?_
          refine lv_if_ne (tgt := 221) hx hb dX12_readLine_204 (by decide) (fun c_55 => ?_) (fun c_55 => ?_)
          · have c_55 : (G_45.1 66 2).toInt ≠ 0 := xI_ne rfl rfl c_55
            refine lv_aload_n hx hb dX12_readLine_221 rfl (lv_at hl 0 rfl) ?_
            refine S_getI (v := (G_45.1 66 2)) (C := RX12) (T := TX12) (N := 89) hx hb hg iX12 hown hK hW kd_66 rfl 2 (by decide) (hg (Cond.fieldLink RX12 218 "SlabWalkModel" "fault" "I") m1316) (fun _ h9 => h9) rfl rfl dX12_readLine_222 ?_
            refine lv_if_ne (tgt := 232) hx hb dX12_readLine_225 (by decide) (fun c_56 => ?_) (fun c_56 => ?_)
            · have c_56 : (G_45.1 66 2).toInt ≠ 0 := xI_ne rfl rfl c_56
              exact W.vret hx hb hr (fun t ht _ => ⟨⟨G_45, rfl, (Q_readLine_mk ⟨hB_G_45, hF, (by omega), ⟨r_1, G_2, hX_5, (Or.inr ⟨G_8, hX_11, hB_G_8, hq_10, ⟨r_13, G_14, hX_17, (Or.inr ⟨G_20, hX_23, hB_G_20, hq_22, ⟨r_25, G_26, hX_29, (Or.inr ⟨G_32, hX_35, hB_G_32, hq_34, ⟨r_38, G_39, hX_42, ⟨G_45, hX_48, f_49, f_50, hB_G_45, hq_47, (Or.inr ⟨c_55, rfl⟩)⟩⟩⟩)⟩⟩)⟩⟩)⟩⟩), wd_t ht hW⟩, hS.F ht⟩) hS.2.2 dX12_readLine_232
            · have c_56 : (G_45.1 66 2).toInt = 0 := xI_eq rfl rfl c_56
              exfalso; omega
          · have c_55 : (G_45.1 66 2).toInt = 0 := xI_eq rfl rfl c_55
            refine lv_aload_n hx hb dX12_readLine_207 rfl (lv_at hl 0 rfl) ?_
            refine S_getI (v := (G_45.1 66 6)) (C := RX12) (T := TX12) (N := 89) hx hb hg iX12 hown hK hW kd_66 rfl 6 (by decide) (hg (Cond.fieldLink RX12 205 "SlabWalkModel" "sort" "I") m1320) (fun _ h9 => h9) rfl rfl dX12_readLine_208 ?_
            refine lv_bipush (v := 59) hx hb dX12_readLine_211 (by decide) ?_
            refine lv_icmp_eq (tgt := 221) hx hb dX12_readLine_213 (by decide) (fun c_57 => ?_) (fun c_57 => ?_)
            · have c_57 : (G_45.1 66 6).toInt = 59 := xI_eq rfl rfl c_57
              refine lv_aload_n hx hb dX12_readLine_221 rfl (lv_at hl 0 rfl) ?_
              refine S_getI (v := (G_45.1 66 2)) (C := RX12) (T := TX12) (N := 89) hx hb hg iX12 hown hK hW kd_66 rfl 2 (by decide) (hg (Cond.fieldLink RX12 218 "SlabWalkModel" "fault" "I") m1316) (fun _ h9 => h9) rfl rfl dX12_readLine_222 ?_
              refine lv_if_ne (tgt := 232) hx hb dX12_readLine_225 (by decide) (fun c_58 => ?_) (fun c_58 => ?_)
              · have c_58 : (G_45.1 66 2).toInt ≠ 0 := xI_ne rfl rfl c_58
                exfalso; omega
              · have c_58 : (G_45.1 66 2).toInt = 0 := xI_eq rfl rfl c_58
                refine lv_aload_n hx hb dX12_readLine_228 rfl (lv_at hl 0 rfl) ?_
                refine S_callv (va_runV (As := []) (rest := []) ⟨hx, hb, hml, hown, hts⟩ (n_token l D k A a z G_45  ) (cwV 0 hts (gd_V hgd m1602 m1604 m50 m131 m1605) rfl rfl rfl (by decide +kernel) ⟨Nat.le_of_ble_eq_true rfl, Nat.le_of_ble_eq_true rfl⟩) (pre_V hW hB_G_45 hK hZ hS kd_66 rfl) rfl rfl hl.1 rfl (lv_room (Nat.le_of_ble_eq_true rfl)) dX12_readLine_229 ⟨Nat.le_of_ble_eq_true rfl, Nat.le_of_ble_eq_true rfl⟩) hS (fun G_60 H locs hpo hW hS => ?_)
                have hX_63 : Q_token G_45 G_60 := hpo
                obtain ⟨hB_G_60, hq_61, hp_62, -⟩ := hpo
                have hF := hF.call hq_61 (by decide) (by decide)
                have g_64 : gE G_60 = gE G := gE_fr (rs := [86]) (fs := [(66, 2), (66, 3), (66, 4), (66, 6), (66, 7), (66, 8), (66, 9), (66, 48), (66, 49), (66, 50), (66, 51)]) (((((((((Fr.rf.call hq_3 (by decide) (by decide)).call hq_10 (by decide) (by decide)).call hq_15 (by decide) (by decide)).call hq_22 (by decide) (by decide)).call hq_27 (by decide) (by decide)).call hq_34 (by decide) (by decide)).call hq_40 (by decide) (by decide)).call hq_47 (by decide) (by decide)).call hq_61 (by decide) (by decide)) (by decide) (by decide)
                have g_65 : gN G_60 = gN G := gN_fr (rs := [86]) (fs := [(66, 2), (66, 3), (66, 4), (66, 6), (66, 7), (66, 8), (66, 9), (66, 48), (66, 49), (66, 50), (66, 51)]) (((((((((Fr.rf.call hq_3 (by decide) (by decide)).call hq_10 (by decide) (by decide)).call hq_15 (by decide) (by decide)).call hq_22 (by decide) (by decide)).call hq_27 (by decide) (by decide)).call hq_34 (by decide) (by decide)).call hq_40 (by decide) (by decide)).call hq_47 (by decide) (by decide)).call hq_61 (by decide) (by decide)) (by decide) (by decide)
                have g_66 : (G_60.1 66 2).toInt = (G_45.1 66 2).toInt := by rw [show G_60.1 66 2 = (G_45.1 66 2) from ((hq_61.i 66 2 (by decide) (by decide)).trans (rfl))]
                have b_67 : 0 ≤ (G_60.1 66 4).toInt ∧ (G_60.1 66 4).toInt ≤ 1600 := hB_G_60.i 66 4 rfl rfl
                have g_68 : (G_60.1 86 0).toInt = (G_45.1 86 0).toInt := by rw [show G_60.1 86 0 = (G_45.1 86 0) from ((hq_61.i 86 0 (by decide) (by decide)).trans (rfl))]
                have g_69 : (G_60.1 86 1).toInt = (G_45.1 86 1).toInt := by rw [show G_60.1 86 1 = (G_45.1 86 1) from ((hq_61.i 86 1 (by decide) (by decide)).trans (rfl))]
                have g_70 : (G_60.1 86 2).toInt = (G_45.1 86 2).toInt := by rw [show G_60.1 86 2 = (G_45.1 86 2) from ((hq_61.i 86 2 (by decide) (by decide)).trans (rfl))]
                exact W.vret hx hb hr (fun t ht _ => ⟨⟨G_60, rfl, (Q_readLine_mk ⟨hB_G_60, hF, (by omega), ⟨r_1, G_2, hX_5, (Or.inr ⟨G_8, hX_11, hB_G_8, hq_10, ⟨r_13, G_14, hX_17, (Or.inr ⟨G_20, hX_23, hB_G_20, hq_22, ⟨r_25, G_26, hX_29, (Or.inr ⟨G_32, hX_35, hB_G_32, hq_34, ⟨r_38, G_39, hX_42, ⟨G_45, hX_48, f_49, f_50, hB_G_45, hq_47, (Or.inl ⟨c_55, (Or.inl ⟨c_57, ⟨G_60, hX_63, rfl⟩⟩)⟩)⟩⟩⟩)⟩⟩)⟩⟩)⟩⟩), wd_t ht hW⟩, hS.F ht⟩) hS.2.2 dX12_readLine_232
            · have c_57 : (G_45.1 66 6).toInt ≠ 59 := xI_ne rfl rfl c_57
              refine lv_aload_n hx hb dX12_readLine_216 rfl (lv_at hl 0 rfl) ?_
              refine lv_iconst (v := 2) hx hb dX12_readLine_217 (by decide) ?_
              have qc_71 : (2 : Int32).toInt = 2 := rfl
              refine S_callv (va_runV (As := [.int 2]) (rest := []) ⟨hx, hb, hml, hown, hts⟩ (n_wrong l D k A a z G_45 2 ⟨by decide, by decide⟩) (cwV 1 hts (gd_V hgd m1670 m1672 m59 m131 m1673) rfl rfl rfl (by decide +kernel) ⟨Nat.le_of_ble_eq_true rfl, Nat.le_of_ble_eq_true rfl⟩) (pre_V hW hB_G_45 hK hZ hS kd_66 rfl) rfl rfl hl.1 rfl (lv_room (Nat.le_of_ble_eq_true rfl)) dX12_readLine_218 ⟨Nat.le_of_ble_eq_true rfl, Nat.le_of_ble_eq_true rfl⟩) hS (fun G_73 H locs hpo hW hS => ?_)
              have hX_76 : Q_wrong 2 G_45 G_73 := hpo
              obtain ⟨hB_G_73, hq_74, hp_75, -⟩ := hpo
              have hF := hF.call hq_74 (by decide) (by decide)
              refine lv_aload_n hx hb dX12_readLine_221 rfl (lv_at hl 0 rfl) ?_
              have b_77 : 0 ≤ (G_73.1 66 2).toInt ∧ (G_73.1 66 2).toInt ≤ 4 := hB_G_73.i 66 2 rfl rfl
              refine S_getI (v := (G_73.1 66 2)) (C := RX12) (T := TX12) (N := 89) hx hb hg iX12 hown hK hW kd_66 rfl 2 (by decide) (hg (Cond.fieldLink RX12 218 "SlabWalkModel" "fault" "I") m1316) (fun _ h9 => h9) rfl rfl dX12_readLine_222 ?_
              refine lv_if_ne (tgt := 232) hx hb dX12_readLine_225 (by decide) (fun c_78 => ?_) (fun c_78 => ?_)
              · have c_78 : (G_73.1 66 2).toInt ≠ 0 := xI_ne rfl rfl c_78
                have g_79 : gE G_73 = gE G := gE_fr (rs := [86]) (fs := [(66, 2), (66, 3), (66, 4), (66, 6), (66, 7), (66, 8), (66, 9), (66, 48), (66, 49), (66, 50), (66, 51)]) (((((((((Fr.rf.call hq_3 (by decide) (by decide)).call hq_10 (by decide) (by decide)).call hq_15 (by decide) (by decide)).call hq_22 (by decide) (by decide)).call hq_27 (by decide) (by decide)).call hq_34 (by decide) (by decide)).call hq_40 (by decide) (by decide)).call hq_47 (by decide) (by decide)).call hq_74 (by decide) (by decide)) (by decide) (by decide)
                have g_80 : gN G_73 = gN G := gN_fr (rs := [86]) (fs := [(66, 2), (66, 3), (66, 4), (66, 6), (66, 7), (66, 8), (66, 9), (66, 48), (66, 49), (66, 50), (66, 51)]) (((((((((Fr.rf.call hq_3 (by decide) (by decide)).call hq_10 (by decide) (by decide)).call hq_15 (by decide) (by decide)).call hq_22 (by decide) (by decide)).call hq_27 (by decide) (by decide)).call hq_34 (by decide) (by decide)).call hq_40 (by decide) (by decide)).call hq_47 (by decide) (by decide)).call hq_74 (by decide) (by decide)) (by decide) (by decide)
                have g_81 : (G_73.1 66 4).toInt = (G_45.1 66 4).toInt := by rw [show G_73.1 66 4 = (G_45.1 66 4) from ((hq_74.i 66 4 (by decide) (by decide)).trans (rfl))]
                have g_82 : (G_73.1 86 0).toInt = (G_45.1 86 0).toInt := by rw [show G_73.1 86 0 = (G_45.1 86 0) from ((hq_74.i 86 0 (by decide) (by decide)).trans (rfl))]
                have g_83 : (G_73.1 86 1).toInt = (G_45.1 86 1).toInt := by rw [show G_73.1 86 1 = (G_45.1 86 1) from ((hq_74.i 86 1 (by decide) (by decide)).trans (rfl))]
                have g_84 : (G_73.1 86 2).toInt = (G_45.1 86 2).toInt := by rw [show G_73.1 86 2 = (G_45.1 86 2) from ((hq_74.i 86 2 (by decide) (by decide)).trans (rfl))]
                exact W.vret hx hb hr (fun t ht _ => ⟨⟨G_73, rfl, (Q_readLine_mk ⟨hB_G_73, hF, (by omega), ⟨r_1, G_2, hX_5, (Or.inr ⟨G_8, hX_11, hB_G_8, hq_10, ⟨r_13, G_14, hX_17, (Or.inr ⟨G_20, hX_23, hB_G_20, hq_22, ⟨r_25, G_26, hX_29, (Or.inr ⟨G_32, hX_35, hB_G_32, hq_34, ⟨r_38, G_39, hX_42, ⟨G_45, hX_48, f_49, f_50, hB_G_45, hq_47, (Or.inl ⟨c_55, (Or.inr ⟨c_57, ⟨G_73, hX_76, (Or.inr ⟨c_78, rfl⟩)⟩⟩)⟩)⟩⟩⟩)⟩⟩)⟩⟩)⟩⟩), wd_t ht hW⟩, hS.F ht⟩) hS.2.2 dX12_readLine_232
              · have c_78 : (G_73.1 66 2).toInt = 0 := xI_eq rfl rfl c_78
                refine lv_aload_n hx hb dX12_readLine_228 rfl (lv_at hl 0 rfl) ?_
                have g_85 : (G_73.1 66 4).toInt = (G_45.1 66 4).toInt := by rw [show G_73.1 66 4 = (G_45.1 66 4) from ((hq_74.i 66 4 (by decide) (by decide)).trans (rfl))]
                have g_86 : (G_73.1 66 6).toInt = (G_45.1 66 6).toInt := by rw [show G_73.1 66 6 = (G_45.1 66 6) from ((hq_74.i 66 6 (by decide) (by decide)).trans (rfl))]
                refine S_callv (va_runV (As := []) (rest := []) ⟨hx, hb, hml, hown, hts⟩ (n_token l D k A a z G_73  ) (cwV 0 hts (gd_V hgd m1602 m1604 m50 m131 m1605) rfl rfl rfl (by decide +kernel) ⟨Nat.le_of_ble_eq_true rfl, Nat.le_of_ble_eq_true rfl⟩) (pre_V hW hB_G_73 hK hZ hS kd_66 rfl) rfl rfl hl.1 rfl (lv_room (Nat.le_of_ble_eq_true rfl)) dX12_readLine_229 ⟨Nat.le_of_ble_eq_true rfl, Nat.le_of_ble_eq_true rfl⟩) hS (fun G_88 H locs hpo hW hS => ?_)
                have hX_91 : Q_token G_73 G_88 := hpo
                obtain ⟨hB_G_88, hq_89, hp_90, -⟩ := hpo
                have hF := hF.call hq_89 (by decide) (by decide)
                have g_92 : gE G_88 = gE G := gE_fr (rs := [86]) (fs := [(66, 2), (66, 3), (66, 4), (66, 6), (66, 7), (66, 8), (66, 9), (66, 48), (66, 49), (66, 50), (66, 51)]) ((((((((((Fr.rf.call hq_3 (by decide) (by decide)).call hq_10 (by decide) (by decide)).call hq_15 (by decide) (by decide)).call hq_22 (by decide) (by decide)).call hq_27 (by decide) (by decide)).call hq_34 (by decide) (by decide)).call hq_40 (by decide) (by decide)).call hq_47 (by decide) (by decide)).call hq_74 (by decide) (by decide)).call hq_89 (by decide) (by decide)) (by decide) (by decide)
                have g_93 : gN G_88 = gN G := gN_fr (rs := [86]) (fs := [(66, 2), (66, 3), (66, 4), (66, 6), (66, 7), (66, 8), (66, 9), (66, 48), (66, 49), (66, 50), (66, 51)]) ((((((((((Fr.rf.call hq_3 (by decide) (by decide)).call hq_10 (by decide) (by decide)).call hq_15 (by decide) (by decide)).call hq_22 (by decide) (by decide)).call hq_27 (by decide) (by decide)).call hq_34 (by decide) (by decide)).call hq_40 (by decide) (by decide)).call hq_47 (by decide) (by decide)).call hq_74 (by decide) (by decide)).call hq_89 (by decide) (by decide)) (by decide) (by decide)
                have g_94 : (G_88.1 66 2).toInt = (G_73.1 66 2).toInt := by rw [show G_88.1 66 2 = (G_73.1 66 2) from ((hq_89.i 66 2 (by decide) (by decide)).trans (rfl))]
                have b_95 : 0 ≤ (G_88.1 66 4).toInt ∧ (G_88.1 66 4).toInt ≤ 1600 := hB_G_88.i 66 4 rfl rfl
                have g_96 : (G_88.1 86 0).toInt = (G_45.1 86 0).toInt := by rw [show G_88.1 86 0 = (G_45.1 86 0) from ((hq_89.i 86 0 (by decide) (by decide)).trans ((hq_74.i 86 0 (by decide) (by decide)).trans (rfl)))]
                have g_97 : (G_88.1 86 1).toInt = (G_45.1 86 1).toInt := by rw [show G_88.1 86 1 = (G_45.1 86 1) from ((hq_89.i 86 1 (by decide) (by decide)).trans ((hq_74.i 86 1 (by decide) (by decide)).trans (rfl)))]
                have g_98 : (G_88.1 86 2).toInt = (G_45.1 86 2).toInt := by rw [show G_88.1 86 2 = (G_45.1 86 2) from ((hq_89.i 86 2 (by decide) (by decide)).trans ((hq_74.i 86 2 (by decide) (by decide)).trans (rfl)))]
                exact W.vret hx hb hr (fun t ht _ => ⟨⟨G_88, rfl, (Q_readLine_mk ⟨hB_G_88, hF, (by omega), ⟨r_1, G_2, hX_5, (Or.inr ⟨G_8, hX_11, hB_G_8, hq_10, ⟨r_13, G_14, hX_17, (Or.inr ⟨G_20, hX_23, hB_G_20, hq_22, ⟨r_25, G_26, hX_29, (Or.inr ⟨G_32, hX_35, hB_G_32, hq_34, ⟨r_38, G_39, hX_42, ⟨G_45, hX_48, f_49, f_50, hB_G_45, hq_47, (Or.inl ⟨c_55, (Or.inr ⟨c_57, ⟨G_73, hX_76, (Or.inl ⟨c_78, ⟨G_88, hX_91, rfl⟩⟩)⟩⟩)⟩)⟩⟩⟩)⟩⟩)⟩⟩)⟩⟩), wd_t ht hW⟩, hS.F ht⟩) hS.2.2 dX12_readLine_232
        refine lv_if_eq (tgt := 104) hx hb dX12_readLine_84 (by decide) (fun c_99 => ?_) (fun c_99 => ?_)
        · have c_99 : r_38.toInt = 0 := xI_eq rfl rfl c_99
          refine lv_aload_n hx hb dX12_readLine_104 rfl (lv_at hl 0 rfl) ?_
          refine lv_ldc2 (v := 1751215716) hx hb hown (hg (Cond.constantLong RX12 239 1751215716) m1652) dX12_readLine_105 ?_
          refine lv_iconst (v := 2) hx hb dX12_readLine_108 (by decide) ?_
          have qc_100 : (2 : Int32).toInt = 2 := rfl
          have g_101 : (G_39.1 66 6).toInt = (G.1 66 6).toInt := by rw [show G_39.1 66 6 = (G.1 66 6) from ((hq_40.i 66 6 (by decide) (by decide)).trans ((hq_34.i 66 6 (by decide) (by decide)).trans ((hq_27.i 66 6 (by decide) (by decide)).trans ((hq_22.i 66 6 (by decide) (by decide)).trans ((hq_15.i 66 6 (by decide) (by decide)).trans ((hq_10.i 66 6 (by decide) (by decide)).trans ((hq_3.i 66 6 (by decide) (by decide)).trans (rfl))))))))]
          refine S_calli (va_runV (As := [.long 1751215716, .int 2]) (rest := []) ⟨hx, hb, hml, hown, hts⟩ (n_isOnce l D k A a z G_39 1751215716 2 ) (cwV 2 hts (gd_V hgd m1761 m1763 m81 m131 m1764) rfl rfl rfl (by decide +kernel) ⟨Nat.le_of_ble_eq_true rfl, Nat.le_of_ble_eq_true rfl⟩) (pre_V hW hB_G_39 hK hZ hS kd_66 rfl) rfl rfl hl.1 rfl (lv_room (Nat.le_of_ble_eq_true rfl)) dX12_readLine_109 ⟨Nat.le_of_ble_eq_true rfl, Nat.le_of_ble_eq_true rfl⟩) hS (fun r_102 G_103 H locs hpo hW hS => ?_)
          have hX_106 : Q_isOnce 1751215716 2 G_39 r_102 G_103 := hpo
          obtain ⟨hB_G_103, hq_104, f_107, hp_105, -⟩ := hpo
          have hF := hF.call hq_104 (by decide) (by decide)
          refine lv_if_eq (tgt := 156) hx hb dX12_readLine_112 (by decide) (fun c_108 => ?_) (fun c_108 => ?_)
          · have c_108 : r_102.toInt = 0 := xI_eq rfl rfl c_108
            refine lv_aload_n hx hb dX12_readLine_156 rfl (lv_at hl 0 rfl) ?_
            refine lv_ldc2 (v := 1685217655) hx hb hown (hg (Cond.constantLong RX12 243 1685217655) m1654) dX12_readLine_157 ?_
            refine lv_iconst (v := 4) hx hb dX12_readLine_160 (by decide) ?_
            have qc_109 : (4 : Int32).toInt = 4 := rfl
            have g_110 : (G_103.1 66 6).toInt = (G.1 66 6).toInt := by rw [show G_103.1 66 6 = (G.1 66 6) from ((hq_104.i 66 6 (by decide) (by decide)).trans ((hq_40.i 66 6 (by decide) (by decide)).trans ((hq_34.i 66 6 (by decide) (by decide)).trans ((hq_27.i 66 6 (by decide) (by decide)).trans ((hq_22.i 66 6 (by decide) (by decide)).trans ((hq_15.i 66 6 (by decide) (by decide)).trans ((hq_10.i 66 6 (by decide) (by decide)).trans ((hq_3.i 66 6 (by decide) (by decide)).trans (rfl)))))))))]
            refine S_calli (va_runV (As := [.long 1685217655, .int 4]) (rest := []) ⟨hx, hb, hml, hown, hts⟩ (n_isOnce l D k A a z G_103 1685217655 4 ) (cwV 2 hts (gd_V hgd m1761 m1763 m81 m131 m1764) rfl rfl rfl (by decide +kernel) ⟨Nat.le_of_ble_eq_true rfl, Nat.le_of_ble_eq_true rfl⟩) (pre_V hW hB_G_103 hK hZ hS kd_66 rfl) rfl rfl hl.1 rfl (lv_room (Nat.le_of_ble_eq_true rfl)) dX12_readLine_161 ⟨Nat.le_of_ble_eq_true rfl, Nat.le_of_ble_eq_true rfl⟩) hS (fun r_111 G_112 H locs hpo hW hS => ?_)
            have hX_115 : Q_isOnce 1685217655 4 G_103 r_111 G_112 := hpo
            obtain ⟨hB_G_112, hq_113, f_116, hp_114, -⟩ := hpo
            have hF := hF.call hq_113 (by decide) (by decide)
            refine lv_if_eq (tgt := 195) hx hb dX12_readLine_164 (by decide) (fun c_117 => ?_) (fun c_117 => ?_)
            · have c_117 : r_111.toInt = 0 := xI_eq rfl rfl c_117
              refine lv_aload_n hx hb dX12_readLine_195 rfl (lv_at hl 0 rfl) ?_
              refine lv_iconst (v := 2) hx hb dX12_readLine_196 (by decide) ?_
              have qc_118 : (2 : Int32).toInt = 2 := rfl
              refine S_callv (va_runV (As := [.int 2]) (rest := []) ⟨hx, hb, hml, hown, hts⟩ (n_wrong l D k A a z G_112 2 ⟨by decide, by decide⟩) (cwV 1 hts (gd_V hgd m1670 m1672 m59 m131 m1673) rfl rfl rfl (by decide +kernel) ⟨Nat.le_of_ble_eq_true rfl, Nat.le_of_ble_eq_true rfl⟩) (pre_V hW hB_G_112 hK hZ hS kd_66 rfl) rfl rfl hl.1 rfl (lv_room (Nat.le_of_ble_eq_true rfl)) dX12_readLine_197 ⟨Nat.le_of_ble_eq_true rfl, Nat.le_of_ble_eq_true rfl⟩) hS (fun G_120 H locs hpo hW hS => ?_)
              have hX_123 : Q_wrong 2 G_112 G_120 := hpo
              obtain ⟨hB_G_120, hq_121, hp_122, -⟩ := hpo
              have hF := hF.call hq_121 (by decide) (by decide)
              have b_124 : 0 ≤ (G.1 66 4).toInt ∧ (G.1 66 4).toInt ≤ 1600 := hB_G.i 66 4 rfl rfl
              have g_125 : (G_120.1 66 4).toInt = (G.1 66 4).toInt := by rw [show G_120.1 66 4 = (G.1 66 4) from ((hq_121.i 66 4 (by decide) (by decide)).trans ((hq_113.i 66 4 (by decide) (by decide)).trans ((hq_104.i 66 4 (by decide) (by decide)).trans ((hq_40.i 66 4 (by decide) (by decide)).trans ((hq_34.i 66 4 (by decide) (by decide)).trans ((hq_27.i 66 4 (by decide) (by decide)).trans ((hq_22.i 66 4 (by decide) (by decide)).trans ((hq_15.i 66 4 (by decide) (by decide)).trans ((hq_10.i 66 4 (by decide) (by decide)).trans (hq_3.i 66 4 (by decide) (by decide)))))))))))]
              have g_126 : (G_120.1 66 6).toInt = (G.1 66 6).toInt := by rw [show G_120.1 66 6 = (G.1 66 6) from ((hq_121.i 66 6 (by decide) (by decide)).trans ((hq_113.i 66 6 (by decide) (by decide)).trans ((hq_104.i 66 6 (by decide) (by decide)).trans ((hq_40.i 66 6 (by decide) (by decide)).trans ((hq_34.i 66 6 (by decide) (by decide)).trans ((hq_27.i 66 6 (by decide) (by decide)).trans ((hq_22.i 66 6 (by decide) (by decide)).trans ((hq_15.i 66 6 (by decide) (by decide)).trans ((hq_10.i 66 6 (by decide) (by decide)).trans ((hq_3.i 66 6 (by decide) (by decide)).trans (rfl)))))))))))]
              have g_127 : gE G_120 = gE G := gE_fr (rs := []) (fs := [(66, 2), (66, 3)]) ((((((((((Fr.rf.call hq_3 (by decide) (by decide)).call hq_10 (by decide) (by decide)).call hq_15 (by decide) (by decide)).call hq_22 (by decide) (by decide)).call hq_27 (by decide) (by decide)).call hq_34 (by decide) (by decide)).call hq_40 (by decide) (by decide)).call hq_104 (by decide) (by decide)).call hq_113 (by decide) (by decide)).call hq_121 (by decide) (by decide)) (by decide) (by decide)
              have g_128 : gN G_120 = gN G := gN_fr (rs := []) (fs := [(66, 2), (66, 3)]) ((((((((((Fr.rf.call hq_3 (by decide) (by decide)).call hq_10 (by decide) (by decide)).call hq_15 (by decide) (by decide)).call hq_22 (by decide) (by decide)).call hq_27 (by decide) (by decide)).call hq_34 (by decide) (by decide)).call hq_40 (by decide) (by decide)).call hq_104 (by decide) (by decide)).call hq_113 (by decide) (by decide)).call hq_121 (by decide) (by decide)) (by decide) (by decide)
              have b_129 : 0 ≤ (G_120.1 66 2).toInt ∧ (G_120.1 66 2).toInt ≤ 4 := hB_G_120.i 66 2 rfl rfl
              have g_130 : (G_120.1 86 0).toInt = (G.1 86 0).toInt := by rw [show G_120.1 86 0 = (G.1 86 0) from ((hq_121.i 86 0 (by decide) (by decide)).trans ((hq_113.i 86 0 (by decide) (by decide)).trans ((hq_104.i 86 0 (by decide) (by decide)).trans ((hq_40.i 86 0 (by decide) (by decide)).trans ((hq_34.i 86 0 (by decide) (by decide)).trans ((hq_27.i 86 0 (by decide) (by decide)).trans ((hq_22.i 86 0 (by decide) (by decide)).trans ((hq_15.i 86 0 (by decide) (by decide)).trans ((hq_10.i 86 0 (by decide) (by decide)).trans (hq_3.i 86 0 (by decide) (by decide)))))))))))]
              have g_131 : (G_120.1 86 1).toInt = (G.1 86 1).toInt := by rw [show G_120.1 86 1 = (G.1 86 1) from ((hq_121.i 86 1 (by decide) (by decide)).trans ((hq_113.i 86 1 (by decide) (by decide)).trans ((hq_104.i 86 1 (by decide) (by decide)).trans ((hq_40.i 86 1 (by decide) (by decide)).trans ((hq_34.i 86 1 (by decide) (by decide)).trans ((hq_27.i 86 1 (by decide) (by decide)).trans ((hq_22.i 86 1 (by decide) (by decide)).trans ((hq_15.i 86 1 (by decide) (by decide)).trans ((hq_10.i 86 1 (by decide) (by decide)).trans (hq_3.i 86 1 (by decide) (by decide)))))))))))]
              have g_132 : (G_120.1 86 2).toInt = (G.1 86 2).toInt := by rw [show G_120.1 86 2 = (G.1 86 2) from ((hq_121.i 86 2 (by decide) (by decide)).trans ((hq_113.i 86 2 (by decide) (by decide)).trans ((hq_104.i 86 2 (by decide) (by decide)).trans ((hq_40.i 86 2 (by decide) (by decide)).trans ((hq_34.i 86 2 (by decide) (by decide)).trans ((hq_27.i 86 2 (by decide) (by decide)).trans ((hq_22.i 86 2 (by decide) (by decide)).trans ((hq_15.i 86 2 (by decide) (by decide)).trans ((hq_10.i 86 2 (by decide) (by decide)).trans (hq_3.i 86 2 (by decide) (by decide)))))))))))]
              exact hJ_46 () _ _ _ ⟨G_120, (by omega), (by omega), (Jn_n_readLine_4_mk (Or.inl ⟨c_99, ⟨r_102, G_103, hX_106, (Or.inl ⟨c_108, ⟨r_111, G_112, hX_115, (Or.inl ⟨c_117, ⟨G_120, hX_123, rfl⟩⟩)⟩⟩)⟩⟩)), hW, hB_G_120, hF, (((Fr.rf.call hq_104 (by decide) (by decide)).call hq_113 (by decide) (by decide)).call hq_121 (by decide) (by decide)), hS, lv_sub hl [0] rfl⟩
            · have c_117 : r_111.toInt ≠ 0 := xI_ne rfl rfl c_117
              refine lv_aload_n hx hb dX12_readLine_167 rfl (lv_at hl 0 rfl) ?_
              refine lv_dup hx hb dX12_readLine_168 rfl ?_
              refine S_getI (v := (G.1 66 51)) (C := RX12) (T := TX12) (N := 89) hx hb hg iX12 hown hK hW kd_66 rfl 51 (by decide) (hg (Cond.fieldLink RX12 391 "SlabWalkModel" "nOnce" "I") m1365) (fun _ h9 => h9) rfl ((hq_113.i 66 51 (by decide) (by decide)).trans ((hq_104.i 66 51 (by decide) (by decide)).trans ((hq_40.i 66 51 (by decide) (by decide)).trans ((hq_34.i 66 51 (by decide) (by decide)).trans ((hq_27.i 66 51 (by decide) (by decide)).trans ((hq_22.i 66 51 (by decide) (by decide)).trans ((hq_15.i 66 51 (by decide) (by decide)).trans ((hq_10.i 66 51 (by decide) (by decide)).trans (hq_3.i 66 51 (by decide) (by decide)))))))))) dX12_readLine_169 ?_
              refine lv_iconst (v := 4) hx hb dX12_readLine_172 (by decide) ?_
              refine lv_ior hx hb dX12_readLine_173 ?_
              refine lv_topi (fun y_133 ey_133 => ?_)
              refine S_putI (ty := .int) (C := RX12) (T := TX12) (N := 89) hx hb hg iX12 tyX12 tyX12_ok nmX12 hown hK hW hS kd_66 rfl 51 (by decide) (hg (Cond.fieldLink RX12 391 "SlabWalkModel" "nOnce" "I") m1365) (fun _ h9 => h9) rfl (by decide +kernel) rfl rfl rfl dX12_readLine_174 (fun G_134 H locs eG_134 hW hS => ?_)
              have hB_G_134 : Bd G_134 := hB_G_112.put (lo := (-2147483648)) (hi := 2147483647) eG_134 rfl rfl rfl (tI_rng _).1 (tI_rng _).2 (hB_G_112.2.put eG_134 rfl)
              have hF := hF.put eG_134 (Or.inr (by decide))
              refine lv_aload_n hx hb dX12_readLine_177 rfl (lv_at hl 0 rfl) ?_
              refine lv_aload_n hx hb dX12_readLine_178 rfl (lv_at hl 0 rfl) ?_
              refine lv_ldc2 (v := 1685217655) hx hb hown (hg (Cond.constantLong RX12 243 1685217655) m1654) dX12_readLine_179 ?_
              refine lv_iconst (v := 0) hx hb dX12_readLine_182 (by decide) ?_
              refine lv_sipush (v := 999) hx hb dX12_readLine_183 (by decide) ?_
              have qc_135 : (0 : Int32).toInt = 0 := rfl
              have qc_136 : (999 : Int32).toInt = 999 := rfl
              have b_137 : 0 ≤ (G.1 66 2).toInt ∧ (G.1 66 2).toInt ≤ 4 := hB_G.i 66 2 rfl rfl
              have g_138 : (G_134.1 66 2).toInt = (G.1 66 2).toInt := by rw [show G_134.1 66 2 = (G.1 66 2) from ((gp_ne eG_134 (by decide)).trans ((hq_113.i 66 2 (by decide) (by decide)).trans ((hq_104.i 66 2 (by decide) (by decide)).trans ((hq_40.i 66 2 (by decide) (by decide)).trans ((hq_34.i 66 2 (by decide) (by decide)).trans ((hq_27.i 66 2 (by decide) (by decide)).trans ((hq_22.i 66 2 (by decide) (by decide)).trans ((hq_15.i 66 2 (by decide) (by decide)).trans ((hq_10.i 66 2 (by decide) (by decide)).trans (hq_3.i 66 2 (by decide) (by decide)))))))))))]
              have b_139 : 0 ≤ (G.1 66 4).toInt ∧ (G.1 66 4).toInt ≤ 1600 := hB_G.i 66 4 rfl rfl
              have g_140 : (G_134.1 66 4).toInt = (G.1 66 4).toInt := by rw [show G_134.1 66 4 = (G.1 66 4) from ((gp_ne eG_134 (by decide)).trans ((hq_113.i 66 4 (by decide) (by decide)).trans ((hq_104.i 66 4 (by decide) (by decide)).trans ((hq_40.i 66 4 (by decide) (by decide)).trans ((hq_34.i 66 4 (by decide) (by decide)).trans ((hq_27.i 66 4 (by decide) (by decide)).trans ((hq_22.i 66 4 (by decide) (by decide)).trans ((hq_15.i 66 4 (by decide) (by decide)).trans ((hq_10.i 66 4 (by decide) (by decide)).trans (hq_3.i 66 4 (by decide) (by decide)))))))))))]
              have g_141 : (G_134.1 66 6).toInt = (G.1 66 6).toInt := by rw [show G_134.1 66 6 = (G.1 66 6) from ((gp_ne eG_134 (by decide)).trans ((hq_113.i 66 6 (by decide) (by decide)).trans ((hq_104.i 66 6 (by decide) (by decide)).trans ((hq_40.i 66 6 (by decide) (by decide)).trans ((hq_34.i 66 6 (by decide) (by decide)).trans ((hq_27.i 66 6 (by decide) (by decide)).trans ((hq_22.i 66 6 (by decide) (by decide)).trans ((hq_15.i 66 6 (by decide) (by decide)).trans ((hq_10.i 66 6 (by decide) (by decide)).trans ((hq_3.i 66 6 (by decide) (by decide)).trans (rfl)))))))))))]
              refine S_calli (va_runV (As := [.long 1685217655, .int 0, .int 999]) (rest := [.ref (a 66)]) ⟨hx, hb, hml, hown, hts⟩ (n_told2 l D k A a z G_134 1685217655 0 999 ) (cwV 3 hts (gd_V hgd m1674 m1676 m60 m131 m1677) rfl rfl rfl (by decide +kernel) ⟨Nat.le_of_ble_eq_true rfl, Nat.le_of_ble_eq_true rfl⟩) (pre_V hW hB_G_134 hK hZ hS kd_66 rfl) rfl rfl hl.1 rfl (lv_room (Nat.le_of_ble_eq_true rfl)) dX12_readLine_186 ⟨Nat.le_of_ble_eq_true rfl, Nat.le_of_ble_eq_true rfl⟩) hS (fun r_142 G_143 H locs hpo hW hS => ?_)
              have hX_146 : Q_told2 1685217655 0 999 G_134 r_142 G_143 := hpo
              obtain ⟨hB_G_143, hq_144, hp_145, -⟩ := hpo
              have hF := hF.call hq_144 (by decide) (by decide)
              refine S_putI (ty := .int) (C := RX12) (T := TX12) (N := 89) hx hb hg iX12 tyX12 tyX12_ok nmX12 hown hK hW hS kd_66 rfl 50 (by decide) (hg (Cond.fieldLink RX12 416 "SlabWalkModel" "nDraw" "I") m1364) (fun _ h9 => h9) rfl (by decide +kernel) rfl rfl rfl dX12_readLine_189 (fun G_147 H locs eG_147 hW hS => ?_)
              have hB_G_147 : Bd G_147 := hB_G_143.put (lo := (-2147483648)) (hi := 2147483647) eG_147 rfl rfl rfl (tI_rng _).1 (tI_rng _).2 (hB_G_143.2.put eG_147 rfl)
              have hF := hF.put eG_147 (Or.inr (by decide))
              refine lv_goto (tgt := 200) hx hb dX12_readLine_192 (by decide) ?_
              have b_148 : 0 ≤ (G_143.1 66 4).toInt ∧ (G_143.1 66 4).toInt ≤ 1600 := hB_G_143.i 66 4 rfl rfl
              have g_149 : (G_147.1 66 4).toInt = (G_143.1 66 4).toInt := by rw [show G_147.1 66 4 = (G_143.1 66 4) from (gp_ne eG_147 (by decide))]
              have g_150 : (G_147.1 66 6).toInt = (G_143.1 66 6).toInt := by rw [show G_147.1 66 6 = (G_143.1 66 6) from (gp_ne eG_147 (by decide))]
              have g_151 : gE G_147 = gE G := gE_fr (rs := []) (fs := [(66, 2), (66, 3), (66, 4), (66, 6), (66, 7), (66, 8), (66, 9), (66, 50), (66, 51)]) ((((((((((((Fr.rf.call hq_3 (by decide) (by decide)).call hq_10 (by decide) (by decide)).call hq_15 (by decide) (by decide)).call hq_22 (by decide) (by decide)).call hq_27 (by decide) (by decide)).call hq_34 (by decide) (by decide)).call hq_40 (by decide) (by decide)).call hq_104 (by decide) (by decide)).call hq_113 (by decide) (by decide)).put eG_134 (Or.inr (by decide))).call hq_144 (by decide) (by decide)).put eG_147 (Or.inr (by decide))) (by decide) (by decide)
              have g_152 : gN G_147 = gN G := gN_fr (rs := []) (fs := [(66, 2), (66, 3), (66, 4), (66, 6), (66, 7), (66, 8), (66, 9), (66, 50), (66, 51)]) ((((((((((((Fr.rf.call hq_3 (by decide) (by decide)).call hq_10 (by decide) (by decide)).call hq_15 (by decide) (by decide)).call hq_22 (by decide) (by decide)).call hq_27 (by decide) (by decide)).call hq_34 (by decide) (by decide)).call hq_40 (by decide) (by decide)).call hq_104 (by decide) (by decide)).call hq_113 (by decide) (by decide)).put eG_134 (Or.inr (by decide))).call hq_144 (by decide) (by decide)).put eG_147 (Or.inr (by decide))) (by decide) (by decide)
              have b_153 : 0 ≤ (G_143.1 66 2).toInt ∧ (G_143.1 66 2).toInt ≤ 4 := hB_G_143.i 66 2 rfl rfl
              have g_154 : (G_147.1 66 2).toInt = (G_143.1 66 2).toInt := by rw [show G_147.1 66 2 = (G_143.1 66 2) from (gp_ne eG_147 (by decide))]
              have g_155 : (G_147.1 86 0).toInt = (G.1 86 0).toInt := by rw [show G_147.1 86 0 = (G.1 86 0) from ((gp_ne eG_147 (by decide)).trans ((hq_144.i 86 0 (by decide) (by decide)).trans ((gp_ne eG_134 (by decide)).trans ((hq_113.i 86 0 (by decide) (by decide)).trans ((hq_104.i 86 0 (by decide) (by decide)).trans ((hq_40.i 86 0 (by decide) (by decide)).trans ((hq_34.i 86 0 (by decide) (by decide)).trans ((hq_27.i 86 0 (by decide) (by decide)).trans ((hq_22.i 86 0 (by decide) (by decide)).trans ((hq_15.i 86 0 (by decide) (by decide)).trans ((hq_10.i 86 0 (by decide) (by decide)).trans (hq_3.i 86 0 (by decide) (by decide)))))))))))))]
              have g_156 : (G_147.1 86 1).toInt = (G.1 86 1).toInt := by rw [show G_147.1 86 1 = (G.1 86 1) from ((gp_ne eG_147 (by decide)).trans ((hq_144.i 86 1 (by decide) (by decide)).trans ((gp_ne eG_134 (by decide)).trans ((hq_113.i 86 1 (by decide) (by decide)).trans ((hq_104.i 86 1 (by decide) (by decide)).trans ((hq_40.i 86 1 (by decide) (by decide)).trans ((hq_34.i 86 1 (by decide) (by decide)).trans ((hq_27.i 86 1 (by decide) (by decide)).trans ((hq_22.i 86 1 (by decide) (by decide)).trans ((hq_15.i 86 1 (by decide) (by decide)).trans ((hq_10.i 86 1 (by decide) (by decide)).trans (hq_3.i 86 1 (by decide) (by decide)))))))))))))]
              have g_157 : (G_147.1 86 2).toInt = (G.1 86 2).toInt := by rw [show G_147.1 86 2 = (G.1 86 2) from ((gp_ne eG_147 (by decide)).trans ((hq_144.i 86 2 (by decide) (by decide)).trans ((gp_ne eG_134 (by decide)).trans ((hq_113.i 86 2 (by decide) (by decide)).trans ((hq_104.i 86 2 (by decide) (by decide)).trans ((hq_40.i 86 2 (by decide) (by decide)).trans ((hq_34.i 86 2 (by decide) (by decide)).trans ((hq_27.i 86 2 (by decide) (by decide)).trans ((hq_22.i 86 2 (by decide) (by decide)).trans ((hq_15.i 86 2 (by decide) (by decide)).trans ((hq_10.i 86 2 (by decide) (by decide)).trans (hq_3.i 86 2 (by decide) (by decide)))))))))))))]
              exact hJ_46 () _ _ _ ⟨G_147, (by omega), (by omega), (Jn_n_readLine_4_mk (Or.inl ⟨c_99, ⟨r_102, G_103, hX_106, (Or.inl ⟨c_108, ⟨r_111, G_112, hX_115, (Or.inr ⟨c_117, ⟨y_133, ey_133, ⟨G_134, hB_G_134, (Fr.rf.put eG_134 (Or.inr (by decide))), (gp_eq eG_134), ⟨r_142, G_143, hX_146, ⟨(Fr.rf.put eG_147 (Or.inr (by decide))), (gp_eq eG_147)⟩⟩⟩⟩⟩)⟩⟩)⟩⟩)), hW, hB_G_147, hF, (((((Fr.rf.call hq_104 (by decide) (by decide)).call hq_113 (by decide) (by decide)).put eG_134 (Or.inr (by decide))).call hq_144 (by decide) (by decide)).put eG_147 (Or.inr (by decide))), hS, lv_sub hl [0] rfl⟩
          · have c_108 : r_102.toInt ≠ 0 := xI_ne rfl rfl c_108
            refine lv_aload_n hx hb dX12_readLine_115 rfl (lv_at hl 0 rfl) ?_
            refine lv_dup hx hb dX12_readLine_116 rfl ?_
            refine S_getI (v := (G.1 66 51)) (C := RX12) (T := TX12) (N := 89) hx hb hg iX12 hown hK hW kd_66 rfl 51 (by decide) (hg (Cond.fieldLink RX12 391 "SlabWalkModel" "nOnce" "I") m1365) (fun _ h9 => h9) rfl ((hq_104.i 66 51 (by decide) (by decide)).trans ((hq_40.i 66 51 (by decide) (by decide)).trans ((hq_34.i 66 51 (by decide) (by decide)).trans ((hq_27.i 66 51 (by decide) (by decide)).trans ((hq_22.i 66 51 (by decide) (by decide)).trans ((hq_15.i 66 51 (by decide) (by decide)).trans ((hq_10.i 66 51 (by decide) (by decide)).trans (hq_3.i 66 51 (by decide) (by decide))))))))) dX12_readLine_117 ?_
            refine lv_iconst (v := 2) hx hb dX12_readLine_120 (by decide) ?_
            refine lv_ior hx hb dX12_readLine_121 ?_
            refine lv_topi (fun y_158 ey_158 => ?_)
            refine S_putI (ty := .int) (C := RX12) (T := TX12) (N := 89) hx hb hg iX12 tyX12 tyX12_ok nmX12 hown hK hW hS kd_66 rfl 51 (by decide) (hg (Cond.fieldLink RX12 391 "SlabWalkModel" "nOnce" "I") m1365) (fun _ h9 => h9) rfl (by decide +kernel) rfl rfl rfl dX12_readLine_122 (fun G_159 H locs eG_159 hW hS => ?_)
            have hB_G_159 : Bd G_159 := hB_G_103.put (lo := (-2147483648)) (hi := 2147483647) eG_159 rfl rfl rfl (tI_rng _).1 (tI_rng _).2 (hB_G_103.2.put eG_159 rfl)
            have hF := hF.put eG_159 (Or.inr (by decide))
            refine lv_aload_n hx hb dX12_readLine_125 rfl (lv_at hl 0 rfl) ?_
            refine lv_aload_n hx hb dX12_readLine_126 rfl (lv_at hl 0 rfl) ?_
            refine lv_ldc2 (v := 1751215716) hx hb hown (hg (Cond.constantLong RX12 239 1751215716) m1652) dX12_readLine_127 ?_
            refine lv_iconst (v := 1) hx hb dX12_readLine_130 (by decide) ?_
            refine lv_bipush (v := 99) hx hb dX12_readLine_131 (by decide) ?_
            have qc_160 : (1 : Int32).toInt = 1 := rfl
            have qc_161 : (99 : Int32).toInt = 99 := rfl
            have b_162 : 0 ≤ (G.1 66 2).toInt ∧ (G.1 66 2).toInt ≤ 4 := hB_G.i 66 2 rfl rfl
            have g_163 : (G_159.1 66 2).toInt = (G.1 66 2).toInt := by rw [show G_159.1 66 2 = (G.1 66 2) from ((gp_ne eG_159 (by decide)).trans ((hq_104.i 66 2 (by decide) (by decide)).trans ((hq_40.i 66 2 (by decide) (by decide)).trans ((hq_34.i 66 2 (by decide) (by decide)).trans ((hq_27.i 66 2 (by decide) (by decide)).trans ((hq_22.i 66 2 (by decide) (by decide)).trans ((hq_15.i 66 2 (by decide) (by decide)).trans ((hq_10.i 66 2 (by decide) (by decide)).trans (hq_3.i 66 2 (by decide) (by decide))))))))))]
            have b_164 : 0 ≤ (G.1 66 4).toInt ∧ (G.1 66 4).toInt ≤ 1600 := hB_G.i 66 4 rfl rfl
            have g_165 : (G_159.1 66 4).toInt = (G.1 66 4).toInt := by rw [show G_159.1 66 4 = (G.1 66 4) from ((gp_ne eG_159 (by decide)).trans ((hq_104.i 66 4 (by decide) (by decide)).trans ((hq_40.i 66 4 (by decide) (by decide)).trans ((hq_34.i 66 4 (by decide) (by decide)).trans ((hq_27.i 66 4 (by decide) (by decide)).trans ((hq_22.i 66 4 (by decide) (by decide)).trans ((hq_15.i 66 4 (by decide) (by decide)).trans ((hq_10.i 66 4 (by decide) (by decide)).trans (hq_3.i 66 4 (by decide) (by decide))))))))))]
            have g_166 : (G_159.1 66 6).toInt = (G.1 66 6).toInt := by rw [show G_159.1 66 6 = (G.1 66 6) from ((gp_ne eG_159 (by decide)).trans ((hq_104.i 66 6 (by decide) (by decide)).trans ((hq_40.i 66 6 (by decide) (by decide)).trans ((hq_34.i 66 6 (by decide) (by decide)).trans ((hq_27.i 66 6 (by decide) (by decide)).trans ((hq_22.i 66 6 (by decide) (by decide)).trans ((hq_15.i 66 6 (by decide) (by decide)).trans ((hq_10.i 66 6 (by decide) (by decide)).trans ((hq_3.i 66 6 (by decide) (by decide)).trans (rfl))))))))))]
            refine S_calli (va_runV (As := [.long 1751215716, .int 1, .int 99]) (rest := [.ref (a 66)]) ⟨hx, hb, hml, hown, hts⟩ (n_told2 l D k A a z G_159 1751215716 1 99 ) (cwV 3 hts (gd_V hgd m1674 m1676 m60 m131 m1677) rfl rfl rfl (by decide +kernel) ⟨Nat.le_of_ble_eq_true rfl, Nat.le_of_ble_eq_true rfl⟩) (pre_V hW hB_G_159 hK hZ hS kd_66 rfl) rfl rfl hl.1 rfl (lv_room (Nat.le_of_ble_eq_true rfl)) dX12_readLine_133 ⟨Nat.le_of_ble_eq_true rfl, Nat.le_of_ble_eq_true rfl⟩) hS (fun r_167 G_168 H locs hpo hW hS => ?_)
            have hX_171 : Q_told2 1751215716 1 99 G_159 r_167 G_168 := hpo
            obtain ⟨hB_G_168, hq_169, hp_170, -⟩ := hpo
            have hF := hF.call hq_169 (by decide) (by decide)
            refine S_putI (ty := .int) (C := RX12) (T := TX12) (N := 89) hx hb hg iX12 tyX12 tyX12_ok nmX12 hown hK hW hS kd_66 rfl 48 (by decide) (hg (Cond.fieldLink RX12 410 "SlabWalkModel" "nHand" "I") m1362) (fun _ h9 => h9) rfl (by decide +kernel) rfl rfl rfl dX12_readLine_136 (fun G_172 H locs eG_172 hW hS => ?_)
            have hB_G_172 : Bd G_172 := hB_G_168.put (lo := (-2147483648)) (hi := 2147483647) eG_172 rfl rfl rfl (tI_rng _).1 (tI_rng _).2 (hB_G_168.2.put eG_172 rfl)
            have hF := hF.put eG_172 (Or.inr (by decide))
            refine lv_aload_n hx hb dX12_readLine_139 rfl (lv_at hl 0 rfl) ?_
            refine lv_aload_n hx hb dX12_readLine_140 rfl (lv_at hl 0 rfl) ?_
            refine lv_ldc2 (v := 495739560811) hx hb hown (hg (Cond.constantLong RX12 241 495739560811) m1653) dX12_readLine_141 ?_
            refine lv_iconst (v := 0) hx hb dX12_readLine_144 (by decide) ?_
            refine lv_bipush (v := 99) hx hb dX12_readLine_145 (by decide) ?_
            have qc_173 : (0 : Int32).toInt = 0 := rfl
            have qc_174 : (99 : Int32).toInt = 99 := rfl
            have b_175 : 0 ≤ (G_168.1 66 2).toInt ∧ (G_168.1 66 2).toInt ≤ 4 := hB_G_168.i 66 2 rfl rfl
            have g_176 : (G_172.1 66 2).toInt = (G_168.1 66 2).toInt := by rw [show G_172.1 66 2 = (G_168.1 66 2) from (gp_ne eG_172 (by decide))]
            have b_177 : 0 ≤ (G_168.1 66 4).toInt ∧ (G_168.1 66 4).toInt ≤ 1600 := hB_G_168.i 66 4 rfl rfl
            have g_178 : (G_172.1 66 4).toInt = (G_168.1 66 4).toInt := by rw [show G_172.1 66 4 = (G_168.1 66 4) from (gp_ne eG_172 (by decide))]
            have g_179 : (G_172.1 66 6).toInt = (G_168.1 66 6).toInt := by rw [show G_172.1 66 6 = (G_168.1 66 6) from (gp_ne eG_172 (by decide))]
            refine S_calli (va_runV (As := [.long 495739560811, .int 0, .int 99]) (rest := [.ref (a 66)]) ⟨hx, hb, hml, hown, hts⟩ (n_told2 l D k A a z G_172 495739560811 0 99 ) (cwV 3 hts (gd_V hgd m1674 m1676 m60 m131 m1677) rfl rfl rfl (by decide +kernel) ⟨Nat.le_of_ble_eq_true rfl, Nat.le_of_ble_eq_true rfl⟩) (pre_V hW hB_G_172 hK hZ hS kd_66 rfl) rfl rfl hl.1 rfl (lv_room (Nat.le_of_ble_eq_true rfl)) dX12_readLine_147 ⟨Nat.le_of_ble_eq_true rfl, Nat.le_of_ble_eq_true rfl⟩) hS (fun r_180 G_181 H locs hpo hW hS => ?_)
            have hX_184 : Q_told2 495739560811 0 99 G_172 r_180 G_181 := hpo
            obtain ⟨hB_G_181, hq_182, hp_183, -⟩ := hpo
            have hF := hF.call hq_182 (by decide) (by decide)
            refine S_putI (ty := .int) (C := RX12) (T := TX12) (N := 89) hx hb hg iX12 tyX12 tyX12_ok nmX12 hown hK hW hS kd_66 rfl 49 (by decide) (hg (Cond.fieldLink RX12 413 "SlabWalkModel" "nSlack" "I") m1363) (fun _ h9 => h9) rfl (by decide +kernel) rfl rfl rfl dX12_readLine_150 (fun G_185 H locs eG_185 hW hS => ?_)
            have hB_G_185 : Bd G_185 := hB_G_181.put (lo := (-2147483648)) (hi := 2147483647) eG_185 rfl rfl rfl (tI_rng _).1 (tI_rng _).2 (hB_G_181.2.put eG_185 rfl)
            have hF := hF.put eG_185 (Or.inr (by decide))
            refine lv_goto (tgt := 200) hx hb dX12_readLine_153 (by decide) ?_
            have b_186 : 0 ≤ (G_181.1 66 4).toInt ∧ (G_181.1 66 4).toInt ≤ 1600 := hB_G_181.i 66 4 rfl rfl
            have g_187 : (G_185.1 66 4).toInt = (G_181.1 66 4).toInt := by rw [show G_185.1 66 4 = (G_181.1 66 4) from (gp_ne eG_185 (by decide))]
            have g_188 : (G_185.1 66 6).toInt = (G_181.1 66 6).toInt := by rw [show G_185.1 66 6 = (G_181.1 66 6) from (gp_ne eG_185 (by decide))]
            have g_189 : gE G_185 = gE G := gE_fr (rs := []) (fs := [(66, 2), (66, 3), (66, 4), (66, 6), (66, 7), (66, 8), (66, 9), (66, 48), (66, 49), (66, 51)]) (((((((((((((Fr.rf.call hq_3 (by decide) (by decide)).call hq_10 (by decide) (by decide)).call hq_15 (by decide) (by decide)).call hq_22 (by decide) (by decide)).call hq_27 (by decide) (by decide)).call hq_34 (by decide) (by decide)).call hq_40 (by decide) (by decide)).call hq_104 (by decide) (by decide)).put eG_159 (Or.inr (by decide))).call hq_169 (by decide) (by decide)).put eG_172 (Or.inr (by decide))).call hq_182 (by decide) (by decide)).put eG_185 (Or.inr (by decide))) (by decide) (by decide)
            have g_190 : gN G_185 = gN G := gN_fr (rs := []) (fs := [(66, 2), (66, 3), (66, 4), (66, 6), (66, 7), (66, 8), (66, 9), (66, 48), (66, 49), (66, 51)]) (((((((((((((Fr.rf.call hq_3 (by decide) (by decide)).call hq_10 (by decide) (by decide)).call hq_15 (by decide) (by decide)).call hq_22 (by decide) (by decide)).call hq_27 (by decide) (by decide)).call hq_34 (by decide) (by decide)).call hq_40 (by decide) (by decide)).call hq_104 (by decide) (by decide)).put eG_159 (Or.inr (by decide))).call hq_169 (by decide) (by decide)).put eG_172 (Or.inr (by decide))).call hq_182 (by decide) (by decide)).put eG_185 (Or.inr (by decide))) (by decide) (by decide)
            have b_191 : 0 ≤ (G_181.1 66 2).toInt ∧ (G_181.1 66 2).toInt ≤ 4 := hB_G_181.i 66 2 rfl rfl
            have g_192 : (G_185.1 66 2).toInt = (G_181.1 66 2).toInt := by rw [show G_185.1 66 2 = (G_181.1 66 2) from (gp_ne eG_185 (by decide))]
            have g_193 : (G_185.1 86 0).toInt = (G.1 86 0).toInt := by rw [show G_185.1 86 0 = (G.1 86 0) from ((gp_ne eG_185 (by decide)).trans ((hq_182.i 86 0 (by decide) (by decide)).trans ((gp_ne eG_172 (by decide)).trans ((hq_169.i 86 0 (by decide) (by decide)).trans ((gp_ne eG_159 (by decide)).trans ((hq_104.i 86 0 (by decide) (by decide)).trans ((hq_40.i 86 0 (by decide) (by decide)).trans ((hq_34.i 86 0 (by decide) (by decide)).trans ((hq_27.i 86 0 (by decide) (by decide)).trans ((hq_22.i 86 0 (by decide) (by decide)).trans ((hq_15.i 86 0 (by decide) (by decide)).trans ((hq_10.i 86 0 (by decide) (by decide)).trans (hq_3.i 86 0 (by decide) (by decide))))))))))))))]
            have g_194 : (G_185.1 86 1).toInt = (G.1 86 1).toInt := by rw [show G_185.1 86 1 = (G.1 86 1) from ((gp_ne eG_185 (by decide)).trans ((hq_182.i 86 1 (by decide) (by decide)).trans ((gp_ne eG_172 (by decide)).trans ((hq_169.i 86 1 (by decide) (by decide)).trans ((gp_ne eG_159 (by decide)).trans ((hq_104.i 86 1 (by decide) (by decide)).trans ((hq_40.i 86 1 (by decide) (by decide)).trans ((hq_34.i 86 1 (by decide) (by decide)).trans ((hq_27.i 86 1 (by decide) (by decide)).trans ((hq_22.i 86 1 (by decide) (by decide)).trans ((hq_15.i 86 1 (by decide) (by decide)).trans ((hq_10.i 86 1 (by decide) (by decide)).trans (hq_3.i 86 1 (by decide) (by decide))))))))))))))]
            have g_195 : (G_185.1 86 2).toInt = (G.1 86 2).toInt := by rw [show G_185.1 86 2 = (G.1 86 2) from ((gp_ne eG_185 (by decide)).trans ((hq_182.i 86 2 (by decide) (by decide)).trans ((gp_ne eG_172 (by decide)).trans ((hq_169.i 86 2 (by decide) (by decide)).trans ((gp_ne eG_159 (by decide)).trans ((hq_104.i 86 2 (by decide) (by decide)).trans ((hq_40.i 86 2 (by decide) (by decide)).trans ((hq_34.i 86 2 (by decide) (by decide)).trans ((hq_27.i 86 2 (by decide) (by decide)).trans ((hq_22.i 86 2 (by decide) (by decide)).trans ((hq_15.i 86 2 (by decide) (by decide)).trans ((hq_10.i 86 2 (by decide) (by decide)).trans (hq_3.i 86 2 (by decide) (by decide))))))))))))))]
            exact hJ_46 () _ _ _ ⟨G_185, (by omega), (by omega), (Jn_n_readLine_4_mk (Or.inl ⟨c_99, ⟨r_102, G_103, hX_106, (Or.inr ⟨c_108, ⟨y_158, ey_158, ⟨G_159, hB_G_159, (Fr.rf.put eG_159 (Or.inr (by decide))), (gp_eq eG_159), ⟨r_167, G_168, hX_171, ⟨G_172, hB_G_172, (Fr.rf.put eG_172 (Or.inr (by decide))), (gp_eq eG_172), ⟨r_180, G_181, hX_184, ⟨(Fr.rf.put eG_185 (Or.inr (by decide))), (gp_eq eG_185)⟩⟩⟩⟩⟩⟩⟩)⟩⟩)), hW, hB_G_185, hF, ((((((Fr.rf.call hq_104 (by decide) (by decide)).put eG_159 (Or.inr (by decide))).call hq_169 (by decide) (by decide)).put eG_172 (Or.inr (by decide))).call hq_182 (by decide) (by decide)).put eG_185 (Or.inr (by decide))), hS, lv_sub hl [0] rfl⟩
        · have c_99 : r_38.toInt ≠ 0 := xI_ne rfl rfl c_99
          refine lv_aload_n hx hb dX12_readLine_87 rfl (lv_at hl 0 rfl) ?_
          refine lv_dup hx hb dX12_readLine_88 rfl ?_
          refine S_getI (v := (G.1 66 51)) (C := RX12) (T := TX12) (N := 89) hx hb hg iX12 hown hK hW kd_66 rfl 51 (by decide) (hg (Cond.fieldLink RX12 391 "SlabWalkModel" "nOnce" "I") m1365) (fun _ h9 => h9) rfl ((hq_40.i 66 51 (by decide) (by decide)).trans ((hq_34.i 66 51 (by decide) (by decide)).trans ((hq_27.i 66 51 (by decide) (by decide)).trans ((hq_22.i 66 51 (by decide) (by decide)).trans ((hq_15.i 66 51 (by decide) (by decide)).trans ((hq_10.i 66 51 (by decide) (by decide)).trans (hq_3.i 66 51 (by decide) (by decide)))))))) dX12_readLine_89 ?_
          refine lv_iconst (v := 1) hx hb dX12_readLine_92 (by decide) ?_
          refine lv_ior hx hb dX12_readLine_93 ?_
          refine lv_topi (fun y_196 ey_196 => ?_)
          refine S_putI (ty := .int) (C := RX12) (T := TX12) (N := 89) hx hb hg iX12 tyX12 tyX12_ok nmX12 hown hK hW hS kd_66 rfl 51 (by decide) (hg (Cond.fieldLink RX12 391 "SlabWalkModel" "nOnce" "I") m1365) (fun _ h9 => h9) rfl (by decide +kernel) rfl rfl rfl dX12_readLine_94 (fun G_197 H locs eG_197 hW hS => ?_)
          have hB_G_197 : Bd G_197 := hB_G_39.put (lo := (-2147483648)) (hi := 2147483647) eG_197 rfl rfl rfl (tI_rng _).1 (tI_rng _).2 (hB_G_39.2.put eG_197 rfl)
          have hF := hF.put eG_197 (Or.inr (by decide))
          refine lv_aload_n hx hb dX12_readLine_97 rfl (lv_at hl 0 rfl) ?_
          have b_198 : 0 ≤ (G.1 66 2).toInt ∧ (G.1 66 2).toInt ≤ 4 := hB_G.i 66 2 rfl rfl
          have g_199 : (G_197.1 66 2).toInt = (G.1 66 2).toInt := by rw [show G_197.1 66 2 = (G.1 66 2) from ((gp_ne eG_197 (by decide)).trans ((hq_40.i 66 2 (by decide) (by decide)).trans ((hq_34.i 66 2 (by decide) (by decide)).trans ((hq_27.i 66 2 (by decide) (by decide)).trans ((hq_22.i 66 2 (by decide) (by decide)).trans ((hq_15.i 66 2 (by decide) (by decide)).trans ((hq_10.i 66 2 (by decide) (by decide)).trans (hq_3.i 66 2 (by decide) (by decide)))))))))]
          have b_200 : 0 ≤ (G.1 66 4).toInt ∧ (G.1 66 4).toInt ≤ 1600 := hB_G.i 66 4 rfl rfl
          have g_201 : (G_197.1 66 4).toInt = (G.1 66 4).toInt := by rw [show G_197.1 66 4 = (G.1 66 4) from ((gp_ne eG_197 (by decide)).trans ((hq_40.i 66 4 (by decide) (by decide)).trans ((hq_34.i 66 4 (by decide) (by decide)).trans ((hq_27.i 66 4 (by decide) (by decide)).trans ((hq_22.i 66 4 (by decide) (by decide)).trans ((hq_15.i 66 4 (by decide) (by decide)).trans ((hq_10.i 66 4 (by decide) (by decide)).trans (hq_3.i 66 4 (by decide) (by decide)))))))))]
          have g_202 : (G_197.1 66 6).toInt = (G.1 66 6).toInt := by rw [show G_197.1 66 6 = (G.1 66 6) from ((gp_ne eG_197 (by decide)).trans ((hq_40.i 66 6 (by decide) (by decide)).trans ((hq_34.i 66 6 (by decide) (by decide)).trans ((hq_27.i 66 6 (by decide) (by decide)).trans ((hq_22.i 66 6 (by decide) (by decide)).trans ((hq_15.i 66 6 (by decide) (by decide)).trans ((hq_10.i 66 6 (by decide) (by decide)).trans ((hq_3.i 66 6 (by decide) (by decide)).trans (rfl)))))))))]
          refine S_callv (va_runV (As := []) (rest := []) ⟨hx, hb, hml, hown, hts⟩ (n_readSlip l D k A a z G_197  (by omega)) (cwV 0 hts (gd_V hgd m1765 m1767 m82 m131 m1768) rfl rfl rfl (by decide +kernel) ⟨Nat.le_of_ble_eq_true rfl, Nat.le_of_ble_eq_true rfl⟩) (pre_V hW hB_G_197 hK hZ hS kd_66 rfl) rfl rfl hl.1 rfl (lv_room (Nat.le_of_ble_eq_true rfl)) dX12_readLine_98 ⟨Nat.le_of_ble_eq_true rfl, Nat.le_of_ble_eq_true rfl⟩) hS (fun G_204 H locs hpo hW hS => ?_)
          have hX_207 : Q_readSlip G_197 G_204 := hpo
          obtain ⟨hB_G_204, hq_205, hp_206, -⟩ := hpo
          have hF := hF.call hq_205 (by decide) (by decide)
          refine lv_goto (tgt := 200) hx hb dX12_readLine_101 (by decide) ?_
          have b_208 : 0 ≤ (G_204.1 66 4).toInt ∧ (G_204.1 66 4).toInt ≤ 1600 := hB_G_204.i 66 4 rfl rfl
          have g_209 : gE G_204 = gE G := gE_fr (rs := [86]) (fs := [(66, 2), (66, 3), (66, 4), (66, 6), (66, 7), (66, 8), (66, 9), (66, 51)]) (((((((((Fr.rf.call hq_3 (by decide) (by decide)).call hq_10 (by decide) (by decide)).call hq_15 (by decide) (by decide)).call hq_22 (by decide) (by decide)).call hq_27 (by decide) (by decide)).call hq_34 (by decide) (by decide)).call hq_40 (by decide) (by decide)).put eG_197 (Or.inr (by decide))).call hq_205 (by decide) (by decide)) (by decide) (by decide)
          have g_210 : gN G_204 = gN G := gN_fr (rs := [86]) (fs := [(66, 2), (66, 3), (66, 4), (66, 6), (66, 7), (66, 8), (66, 9), (66, 51)]) (((((((((Fr.rf.call hq_3 (by decide) (by decide)).call hq_10 (by decide) (by decide)).call hq_15 (by decide) (by decide)).call hq_22 (by decide) (by decide)).call hq_27 (by decide) (by decide)).call hq_34 (by decide) (by decide)).call hq_40 (by decide) (by decide)).put eG_197 (Or.inr (by decide))).call hq_205 (by decide) (by decide)) (by decide) (by decide)
          have b_211 : 0 ≤ (G_204.1 66 2).toInt ∧ (G_204.1 66 2).toInt ≤ 4 := hB_G_204.i 66 2 rfl rfl
          exact hJ_46 () _ _ _ ⟨G_204, (by omega), (by omega), (Jn_n_readLine_4_mk (Or.inr ⟨c_99, ⟨y_196, ey_196, ⟨G_197, hB_G_197, (Fr.rf.put eG_197 (Or.inr (by decide))), (gp_eq eG_197), ⟨G_204, hX_207, rfl⟩⟩⟩⟩)), hW, hB_G_204, hF, ((Fr.rf.put eG_197 (Or.inr (by decide))).call hq_205 (by decide) (by decide)), hS, lv_sub hl [0] rfl⟩
      refine lv_if_eq (tgt := 76) hx hb dX12_readLine_57 (by decide) (fun c_212 => ?_) (fun c_212 => ?_)
      · have c_212 : r_25.toInt = 0 := xI_eq rfl rfl c_212
        exact hJ_33 () _ _ _ ⟨G_26, (Jn_n_readLine_3_mk (Or.inl ⟨c_212, rfl⟩)), hW, hB_G_26, hF, Fr.rf, hS, lv_sub hl [0] rfl⟩
      · have c_212 : r_25.toInt ≠ 0 := xI_ne rfl rfl c_212
        refine lv_aload_n hx hb dX12_readLine_60 rfl (lv_at hl 0 rfl) ?_
        have b_213 : 0 ≤ (G.1 66 47).toInt ∧ (G.1 66 47).toInt ≤ 6 := hB_G.i 66 47 rfl rfl
        refine S_getI (v := (G.1 66 47)) (C := RX12) (T := TX12) (N := 89) hx hb hg iX12 hown hK hW kd_66 rfl 47 (by decide) (hg (Cond.fieldLink RX12 385 "SlabWalkModel" "nRules" "I") m1361) (fun _ h9 => h9) rfl ((hq_27.i 66 47 (by decide) (by decide)).trans ((hq_22.i 66 47 (by decide) (by decide)).trans ((hq_15.i 66 47 (by decide) (by decide)).trans ((hq_10.i 66 47 (by decide) (by decide)).trans (hq_3.i 66 47 (by decide) (by decide)))))) dX12_readLine_61 ?_
        refine lv_bipush (v := 6) hx hb dX12_readLine_64 (by decide) ?_
        refine lv_icmp_ge (tgt := 76) hx hb dX12_readLine_66 (by decide) (fun c_214 => ?_) (fun c_214 => ?_)
        · have c_214 : 6 ≤ (G.1 66 47).toInt := xI_le rfl rfl c_214
          exact hJ_33 () _ _ _ ⟨G_26, (Jn_n_readLine_3_mk (Or.inr ⟨c_212, ⟨c_214, rfl⟩⟩)), hW, hB_G_26, hF, Fr.rf, hS, lv_sub hl [0] rfl⟩
        · have c_214 : (G.1 66 47).toInt < 6 := xI_nle rfl rfl c_214
          refine lv_aload_n hx hb dX12_readLine_69 rfl (lv_at hl 0 rfl) ?_
          have b_215 : 0 ≤ (G.1 66 2).toInt ∧ (G.1 66 2).toInt ≤ 4 := hB_G.i 66 2 rfl rfl
          have g_216 : (G_26.1 66 2).toInt = (G.1 66 2).toInt := by rw [show G_26.1 66 2 = (G.1 66 2) from ((hq_27.i 66 2 (by decide) (by decide)).trans ((hq_22.i 66 2 (by decide) (by decide)).trans ((hq_15.i 66 2 (by decide) (by decide)).trans ((hq_10.i 66 2 (by decide) (by decide)).trans (hq_3.i 66 2 (by decide) (by decide))))))]
          have g_217 : (G_26.1 66 47).toInt = (G.1 66 47).toInt := by rw [show G_26.1 66 47 = (G.1 66 47) from ((hq_27.i 66 47 (by decide) (by decide)).trans ((hq_22.i 66 47 (by decide) (by decide)).trans ((hq_15.i 66 47 (by decide) (by decide)).trans ((hq_10.i 66 47 (by decide) (by decide)).trans ((hq_3.i 66 47 (by decide) (by decide)).trans (rfl))))))]
          have g_218 : gE G_26 = gE G := gE_fr (rs := []) (fs := []) (((((Fr.rf.call hq_3 (by decide) (by decide)).call hq_10 (by decide) (by decide)).call hq_15 (by decide) (by decide)).call hq_22 (by decide) (by decide)).call hq_27 (by decide) (by decide)) (by decide) (by decide)
          have b_219 : 0 ≤ (G.1 66 4).toInt ∧ (G.1 66 4).toInt ≤ 1600 := hB_G.i 66 4 rfl rfl
          have g_220 : (G_26.1 66 4).toInt = (G.1 66 4).toInt := by rw [show G_26.1 66 4 = (G.1 66 4) from ((hq_27.i 66 4 (by decide) (by decide)).trans ((hq_22.i 66 4 (by decide) (by decide)).trans ((hq_15.i 66 4 (by decide) (by decide)).trans ((hq_10.i 66 4 (by decide) (by decide)).trans (hq_3.i 66 4 (by decide) (by decide))))))]
          have g_221 : (G_26.1 66 6).toInt = (G.1 66 6).toInt := by rw [show G_26.1 66 6 = (G.1 66 6) from ((hq_27.i 66 6 (by decide) (by decide)).trans ((hq_22.i 66 6 (by decide) (by decide)).trans ((hq_15.i 66 6 (by decide) (by decide)).trans ((hq_10.i 66 6 (by decide) (by decide)).trans ((hq_3.i 66 6 (by decide) (by decide)).trans (rfl))))))]
          refine S_callv (va_runV (As := []) (rest := []) ⟨hx, hb, hml, hown, hts⟩ (n_readRule l D k A a z G_26  (by omega) (by omega) (by omega)) (cwV 0 hts (gd_V hgd m1706 m1708 m68 m131 m1709) rfl rfl rfl (by decide +kernel) ⟨Nat.le_of_ble_eq_true rfl, Nat.le_of_ble_eq_true rfl⟩) (pre_V hW hB_G_26 hK hZ hS kd_66 rfl) rfl rfl hl.1 rfl (lv_room (Nat.le_of_ble_eq_true rfl)) dX12_readLine_70 ⟨Nat.le_of_ble_eq_true rfl, Nat.le_of_ble_eq_true rfl⟩) hS (fun G_223 H locs hpo hW hS => ?_)
          have hX_226 : Q_readRule G_26 G_223 := hpo
          obtain ⟨hB_G_223, hq_224, hp_225, -⟩ := hpo
          have hF := hF.call hq_224 (by decide) (by decide)
          refine lv_goto (tgt := 200) hx hb dX12_readLine_73 (by decide) ?_
          refine lv_aload_n hx hb dX12_readLine_200 rfl (lv_at hl 0 rfl) ?_
          have b_227 : 0 ≤ (G_223.1 66 2).toInt ∧ (G_223.1 66 2).toInt ≤ 4 := hB_G_223.i 66 2 rfl rfl
          refine S_getI (v := (G_223.1 66 2)) (C := RX12) (T := TX12) (N := 89) hx hb hg iX12 hown hK hW kd_66 rfl 2 (by decide) (hg (Cond.fieldLink RX12 218 "SlabWalkModel" "fault" "I") m1316) (fun _ h9 => h9) rfl rfl dX12_readLine_201 ?_
          refine lv_if_ne (tgt := 221) hx hb dX12_readLine_204 (by decide) (fun c_228 => ?_) (fun c_228 => ?_)
          · have c_228 : (G_223.1 66 2).toInt ≠ 0 := xI_ne rfl rfl c_228
            refine lv_aload_n hx hb dX12_readLine_221 rfl (lv_at hl 0 rfl) ?_
            refine S_getI (v := (G_223.1 66 2)) (C := RX12) (T := TX12) (N := 89) hx hb hg iX12 hown hK hW kd_66 rfl 2 (by decide) (hg (Cond.fieldLink RX12 218 "SlabWalkModel" "fault" "I") m1316) (fun _ h9 => h9) rfl rfl dX12_readLine_222 ?_
            refine lv_if_ne (tgt := 232) hx hb dX12_readLine_225 (by decide) (fun c_229 => ?_) (fun c_229 => ?_)
            · have c_229 : (G_223.1 66 2).toInt ≠ 0 := xI_ne rfl rfl c_229
              have g_230 : gN G_223 = gN G := gN_fr (rs := [68, 69, 70, 71, 75]) (fs := [(66, 2), (66, 3), (66, 4), (66, 6), (66, 7), (66, 8), (66, 9), (66, 19), (66, 20), (66, 21), (66, 23), (66, 24), (66, 47)]) ((((((Fr.rf.call hq_3 (by decide) (by decide)).call hq_10 (by decide) (by decide)).call hq_15 (by decide) (by decide)).call hq_22 (by decide) (by decide)).call hq_27 (by decide) (by decide)).call hq_224 (by decide) (by decide)) (by decide) (by decide)
              have b_231 : 0 ≤ (G_223.1 66 4).toInt ∧ (G_223.1 66 4).toInt ≤ 1600 := hB_G_223.i 66 4 rfl rfl
              have g_232 : (G_223.1 86 0).toInt = (G.1 86 0).toInt := by rw [show G_223.1 86 0 = (G.1 86 0) from ((hq_224.i 86 0 (by decide) (by decide)).trans ((hq_27.i 86 0 (by decide) (by decide)).trans ((hq_22.i 86 0 (by decide) (by decide)).trans ((hq_15.i 86 0 (by decide) (by decide)).trans ((hq_10.i 86 0 (by decide) (by decide)).trans (hq_3.i 86 0 (by decide) (by decide)))))))]
              have g_233 : (G_223.1 86 1).toInt = (G.1 86 1).toInt := by rw [show G_223.1 86 1 = (G.1 86 1) from ((hq_224.i 86 1 (by decide) (by decide)).trans ((hq_27.i 86 1 (by decide) (by decide)).trans ((hq_22.i 86 1 (by decide) (by decide)).trans ((hq_15.i 86 1 (by decide) (by decide)).trans ((hq_10.i 86 1 (by decide) (by decide)).trans (hq_3.i 86 1 (by decide) (by decide)))))))]
              have g_234 : (G_223.1 86 2).toInt = (G.1 86 2).toInt := by rw [show G_223.1 86 2 = (G.1 86 2) from ((hq_224.i 86 2 (by decide) (by decide)).trans ((hq_27.i 86 2 (by decide) (by decide)).trans ((hq_22.i 86 2 (by decide) (by decide)).trans ((hq_15.i 86 2 (by decide) (by decide)).trans ((hq_10.i 86 2 (by decide) (by decide)).trans (hq_3.i 86 2 (by decide) (by decide)))))))]
              exact W.vret hx hb hr (fun t ht _ => ⟨⟨G_223, rfl, (Q_readLine_mk ⟨hB_G_223, hF, (by omega), ⟨r_1, G_2, hX_5, (Or.inr ⟨G_8, hX_11, hB_G_8, hq_10, ⟨r_13, G_14, hX_17, (Or.inr ⟨G_20, hX_23, hB_G_20, hq_22, ⟨r_25, G_26, hX_29, (Or.inl ⟨c_212, ⟨c_214, ⟨G_223, hX_226, (Or.inr ⟨c_228, rfl⟩)⟩⟩⟩)⟩⟩)⟩⟩)⟩⟩), wd_t ht hW⟩, hS.F ht⟩) hS.2.2 dX12_readLine_232
            · have c_229 : (G_223.1 66 2).toInt = 0 := xI_eq rfl rfl c_229
              exfalso; omega
          · have c_228 : (G_223.1 66 2).toInt = 0 := xI_eq rfl rfl c_228
            refine lv_aload_n hx hb dX12_readLine_207 rfl (lv_at hl 0 rfl) ?_
            refine S_getI (v := (G_223.1 66 6)) (C := RX12) (T := TX12) (N := 89) hx hb hg iX12 hown hK hW kd_66 rfl 6 (by decide) (hg (Cond.fieldLink RX12 205 "SlabWalkModel" "sort" "I") m1320) (fun _ h9 => h9) rfl rfl dX12_readLine_208 ?_
            refine lv_bipush (v := 59) hx hb dX12_readLine_211 (by decide) ?_
            refine lv_icmp_eq (tgt := 221) hx hb dX12_readLine_213 (by decide) (fun c_235 => ?_) (fun c_235 => ?_)
            · have c_235 : (G_223.1 66 6).toInt = 59 := xI_eq rfl rfl c_235
              refine lv_aload_n hx hb dX12_readLine_221 rfl (lv_at hl 0 rfl) ?_
              refine S_getI (v := (G_223.1 66 2)) (C := RX12) (T := TX12) (N := 89) hx hb hg iX12 hown hK hW kd_66 rfl 2 (by decide) (hg (Cond.fieldLink RX12 218 "SlabWalkModel" "fault" "I") m1316) (fun _ h9 => h9) rfl rfl dX12_readLine_222 ?_
              refine lv_if_ne (tgt := 232) hx hb dX12_readLine_225 (by decide) (fun c_236 => ?_) (fun c_236 => ?_)
              · have c_236 : (G_223.1 66 2).toInt ≠ 0 := xI_ne rfl rfl c_236
                exfalso; omega
              · have c_236 : (G_223.1 66 2).toInt = 0 := xI_eq rfl rfl c_236
                refine lv_aload_n hx hb dX12_readLine_228 rfl (lv_at hl 0 rfl) ?_
                have b_237 : 0 ≤ (G_223.1 66 4).toInt ∧ (G_223.1 66 4).toInt ≤ 1600 := hB_G_223.i 66 4 rfl rfl
                refine S_callv (va_runV (As := []) (rest := []) ⟨hx, hb, hml, hown, hts⟩ (n_token l D k A a z G_223  ) (cwV 0 hts (gd_V hgd m1602 m1604 m50 m131 m1605) rfl rfl rfl (by decide +kernel) ⟨Nat.le_of_ble_eq_true rfl, Nat.le_of_ble_eq_true rfl⟩) (pre_V hW hB_G_223 hK hZ hS kd_66 rfl) rfl rfl hl.1 rfl (lv_room (Nat.le_of_ble_eq_true rfl)) dX12_readLine_229 ⟨Nat.le_of_ble_eq_true rfl, Nat.le_of_ble_eq_true rfl⟩) hS (fun G_239 H locs hpo hW hS => ?_)
                have hX_242 : Q_token G_223 G_239 := hpo
                obtain ⟨hB_G_239, hq_240, hp_241, -⟩ := hpo
                have hF := hF.call hq_240 (by decide) (by decide)
                have g_243 : gE G_239 = gE G_223 := gE_fr (rs := []) (fs := [(66, 4), (66, 6), (66, 7), (66, 8), (66, 9)]) (Fr.rf.call hq_240 (by decide) (by decide)) (by decide) (by decide)
                have g_244 : gN G_239 = gN G := gN_fr (rs := [68, 69, 70, 71, 75]) (fs := [(66, 2), (66, 3), (66, 4), (66, 6), (66, 7), (66, 8), (66, 9), (66, 19), (66, 20), (66, 21), (66, 23), (66, 24), (66, 47)]) (((((((Fr.rf.call hq_3 (by decide) (by decide)).call hq_10 (by decide) (by decide)).call hq_15 (by decide) (by decide)).call hq_22 (by decide) (by decide)).call hq_27 (by decide) (by decide)).call hq_224 (by decide) (by decide)).call hq_240 (by decide) (by decide)) (by decide) (by decide)
                have g_245 : (G_239.1 66 2).toInt = (G_223.1 66 2).toInt := by rw [show G_239.1 66 2 = (G_223.1 66 2) from ((hq_240.i 66 2 (by decide) (by decide)).trans (rfl))]
                have b_246 : 0 ≤ (G_239.1 66 4).toInt ∧ (G_239.1 66 4).toInt ≤ 1600 := hB_G_239.i 66 4 rfl rfl
                have g_247 : (G_239.1 86 0).toInt = (G.1 86 0).toInt := by rw [show G_239.1 86 0 = (G.1 86 0) from ((hq_240.i 86 0 (by decide) (by decide)).trans ((hq_224.i 86 0 (by decide) (by decide)).trans ((hq_27.i 86 0 (by decide) (by decide)).trans ((hq_22.i 86 0 (by decide) (by decide)).trans ((hq_15.i 86 0 (by decide) (by decide)).trans ((hq_10.i 86 0 (by decide) (by decide)).trans (hq_3.i 86 0 (by decide) (by decide))))))))]
                have g_248 : (G_239.1 86 1).toInt = (G.1 86 1).toInt := by rw [show G_239.1 86 1 = (G.1 86 1) from ((hq_240.i 86 1 (by decide) (by decide)).trans ((hq_224.i 86 1 (by decide) (by decide)).trans ((hq_27.i 86 1 (by decide) (by decide)).trans ((hq_22.i 86 1 (by decide) (by decide)).trans ((hq_15.i 86 1 (by decide) (by decide)).trans ((hq_10.i 86 1 (by decide) (by decide)).trans (hq_3.i 86 1 (by decide) (by decide))))))))]
                have g_249 : (G_239.1 86 2).toInt = (G.1 86 2).toInt := by rw [show G_239.1 86 2 = (G.1 86 2) from ((hq_240.i 86 2 (by decide) (by decide)).trans ((hq_224.i 86 2 (by decide) (by decide)).trans ((hq_27.i 86 2 (by decide) (by decide)).trans ((hq_22.i 86 2 (by decide) (by decide)).trans ((hq_15.i 86 2 (by decide) (by decide)).trans ((hq_10.i 86 2 (by decide) (by decide)).trans (hq_3.i 86 2 (by decide) (by decide))))))))]
                exact W.vret hx hb hr (fun t ht _ => ⟨⟨G_239, rfl, (Q_readLine_mk ⟨hB_G_239, hF, (by omega), ⟨r_1, G_2, hX_5, (Or.inr ⟨G_8, hX_11, hB_G_8, hq_10, ⟨r_13, G_14, hX_17, (Or.inr ⟨G_20, hX_23, hB_G_20, hq_22, ⟨r_25, G_26, hX_29, (Or.inl ⟨c_212, ⟨c_214, ⟨G_223, hX_226, (Or.inl ⟨c_228, (Or.inl ⟨c_235, ⟨G_239, hX_242, rfl⟩⟩)⟩)⟩⟩⟩)⟩⟩)⟩⟩)⟩⟩), wd_t ht hW⟩, hS.F ht⟩) hS.2.2 dX12_readLine_232
            · have c_235 : (G_223.1 66 6).toInt ≠ 59 := xI_ne rfl rfl c_235
              refine lv_aload_n hx hb dX12_readLine_216 rfl (lv_at hl 0 rfl) ?_
              refine lv_iconst (v := 2) hx hb dX12_readLine_217 (by decide) ?_
              have qc_250 : (2 : Int32).toInt = 2 := rfl
              refine S_callv (va_runV (As := [.int 2]) (rest := []) ⟨hx, hb, hml, hown, hts⟩ (n_wrong l D k A a z G_223 2 ⟨by decide, by decide⟩) (cwV 1 hts (gd_V hgd m1670 m1672 m59 m131 m1673) rfl rfl rfl (by decide +kernel) ⟨Nat.le_of_ble_eq_true rfl, Nat.le_of_ble_eq_true rfl⟩) (pre_V hW hB_G_223 hK hZ hS kd_66 rfl) rfl rfl hl.1 rfl (lv_room (Nat.le_of_ble_eq_true rfl)) dX12_readLine_218 ⟨Nat.le_of_ble_eq_true rfl, Nat.le_of_ble_eq_true rfl⟩) hS (fun G_252 H locs hpo hW hS => ?_)
              have hX_255 : Q_wrong 2 G_223 G_252 := hpo
              obtain ⟨hB_G_252, hq_253, hp_254, -⟩ := hpo
              have hF := hF.call hq_253 (by decide) (by decide)
              refine lv_aload_n hx hb dX12_readLine_221 rfl (lv_at hl 0 rfl) ?_
              have b_256 : 0 ≤ (G_252.1 66 2).toInt ∧ (G_252.1 66 2).toInt ≤ 4 := hB_G_252.i 66 2 rfl rfl
              refine S_getI (v := (G_252.1 66 2)) (C := RX12) (T := TX12) (N := 89) hx hb hg iX12 hown hK hW kd_66 rfl 2 (by decide) (hg (Cond.fieldLink RX12 218 "SlabWalkModel" "fault" "I") m1316) (fun _ h9 => h9) rfl rfl dX12_readLine_222 ?_
              refine lv_if_ne (tgt := 232) hx hb dX12_readLine_225 (by decide) (fun c_257 => ?_) (fun c_257 => ?_)
              · have c_257 : (G_252.1 66 2).toInt ≠ 0 := xI_ne rfl rfl c_257
                have g_258 : gE G_252 = gE G_223 := gE_fr (rs := []) (fs := [(66, 2), (66, 3)]) (Fr.rf.call hq_253 (by decide) (by decide)) (by decide) (by decide)
                have g_259 : gN G_252 = gN G := gN_fr (rs := [68, 69, 70, 71, 75]) (fs := [(66, 2), (66, 3), (66, 4), (66, 6), (66, 7), (66, 8), (66, 9), (66, 19), (66, 20), (66, 21), (66, 23), (66, 24), (66, 47)]) (((((((Fr.rf.call hq_3 (by decide) (by decide)).call hq_10 (by decide) (by decide)).call hq_15 (by decide) (by decide)).call hq_22 (by decide) (by decide)).call hq_27 (by decide) (by decide)).call hq_224 (by decide) (by decide)).call hq_253 (by decide) (by decide)) (by decide) (by decide)
                have b_260 : 0 ≤ (G_223.1 66 4).toInt ∧ (G_223.1 66 4).toInt ≤ 1600 := hB_G_223.i 66 4 rfl rfl
                have g_261 : (G_252.1 66 4).toInt = (G_223.1 66 4).toInt := by rw [show G_252.1 66 4 = (G_223.1 66 4) from (hq_253.i 66 4 (by decide) (by decide))]
                have g_262 : (G_252.1 86 0).toInt = (G.1 86 0).toInt := by rw [show G_252.1 86 0 = (G.1 86 0) from ((hq_253.i 86 0 (by decide) (by decide)).trans ((hq_224.i 86 0 (by decide) (by decide)).trans ((hq_27.i 86 0 (by decide) (by decide)).trans ((hq_22.i 86 0 (by decide) (by decide)).trans ((hq_15.i 86 0 (by decide) (by decide)).trans ((hq_10.i 86 0 (by decide) (by decide)).trans (hq_3.i 86 0 (by decide) (by decide))))))))]
                have g_263 : (G_252.1 86 1).toInt = (G.1 86 1).toInt := by rw [show G_252.1 86 1 = (G.1 86 1) from ((hq_253.i 86 1 (by decide) (by decide)).trans ((hq_224.i 86 1 (by decide) (by decide)).trans ((hq_27.i 86 1 (by decide) (by decide)).trans ((hq_22.i 86 1 (by decide) (by decide)).trans ((hq_15.i 86 1 (by decide) (by decide)).trans ((hq_10.i 86 1 (by decide) (by decide)).trans (hq_3.i 86 1 (by decide) (by decide))))))))]
                have g_264 : (G_252.1 86 2).toInt = (G.1 86 2).toInt := by rw [show G_252.1 86 2 = (G.1 86 2) from ((hq_253.i 86 2 (by decide) (by decide)).trans ((hq_224.i 86 2 (by decide) (by decide)).trans ((hq_27.i 86 2 (by decide) (by decide)).trans ((hq_22.i 86 2 (by decide) (by decide)).trans ((hq_15.i 86 2 (by decide) (by decide)).trans ((hq_10.i 86 2 (by decide) (by decide)).trans (hq_3.i 86 2 (by decide) (by decide))))))))]
                exact W.vret hx hb hr (fun t ht _ => ⟨⟨G_252, rfl, (Q_readLine_mk ⟨hB_G_252, hF, (by omega), ⟨r_1, G_2, hX_5, (Or.inr ⟨G_8, hX_11, hB_G_8, hq_10, ⟨r_13, G_14, hX_17, (Or.inr ⟨G_20, hX_23, hB_G_20, hq_22, ⟨r_25, G_26, hX_29, (Or.inl ⟨c_212, ⟨c_214, ⟨G_223, hX_226, (Or.inl ⟨c_228, (Or.inr ⟨c_235, ⟨G_252, hX_255, (Or.inr ⟨c_257, rfl⟩)⟩⟩)⟩)⟩⟩⟩)⟩⟩)⟩⟩)⟩⟩), wd_t ht hW⟩, hS.F ht⟩) hS.2.2 dX12_readLine_232
              · have c_257 : (G_252.1 66 2).toInt = 0 := xI_eq rfl rfl c_257
                refine lv_aload_n hx hb dX12_readLine_228 rfl (lv_at hl 0 rfl) ?_
                have b_265 : 0 ≤ (G_223.1 66 4).toInt ∧ (G_223.1 66 4).toInt ≤ 1600 := hB_G_223.i 66 4 rfl rfl
                have g_266 : (G_252.1 66 4).toInt = (G_223.1 66 4).toInt := by rw [show G_252.1 66 4 = (G_223.1 66 4) from (hq_253.i 66 4 (by decide) (by decide))]
                have g_267 : (G_252.1 66 6).toInt = (G_223.1 66 6).toInt := by rw [show G_252.1 66 6 = (G_223.1 66 6) from ((hq_253.i 66 6 (by decide) (by decide)).trans (rfl))]
                refine S_callv (va_runV (As := []) (rest := []) ⟨hx, hb, hml, hown, hts⟩ (n_token l D k A a z G_252  ) (cwV 0 hts (gd_V hgd m1602 m1604 m50 m131 m1605) rfl rfl rfl (by decide +kernel) ⟨Nat.le_of_ble_eq_true rfl, Nat.le_of_ble_eq_true rfl⟩) (pre_V hW hB_G_252 hK hZ hS kd_66 rfl) rfl rfl hl.1 rfl (lv_room (Nat.le_of_ble_eq_true rfl)) dX12_readLine_229 ⟨Nat.le_of_ble_eq_true rfl, Nat.le_of_ble_eq_true rfl⟩) hS (fun G_269 H locs hpo hW hS => ?_)
                have hX_272 : Q_token G_252 G_269 := hpo
                obtain ⟨hB_G_269, hq_270, hp_271, -⟩ := hpo
                have hF := hF.call hq_270 (by decide) (by decide)
                have g_273 : gE G_269 = gE G_223 := gE_fr (rs := []) (fs := [(66, 2), (66, 3), (66, 4), (66, 6), (66, 7), (66, 8), (66, 9)]) ((Fr.rf.call hq_253 (by decide) (by decide)).call hq_270 (by decide) (by decide)) (by decide) (by decide)
                have g_274 : gN G_269 = gN G := gN_fr (rs := [68, 69, 70, 71, 75]) (fs := [(66, 2), (66, 3), (66, 4), (66, 6), (66, 7), (66, 8), (66, 9), (66, 19), (66, 20), (66, 21), (66, 23), (66, 24), (66, 47)]) ((((((((Fr.rf.call hq_3 (by decide) (by decide)).call hq_10 (by decide) (by decide)).call hq_15 (by decide) (by decide)).call hq_22 (by decide) (by decide)).call hq_27 (by decide) (by decide)).call hq_224 (by decide) (by decide)).call hq_253 (by decide) (by decide)).call hq_270 (by decide) (by decide)) (by decide) (by decide)
                have g_275 : (G_269.1 66 2).toInt = (G_252.1 66 2).toInt := by rw [show G_269.1 66 2 = (G_252.1 66 2) from ((hq_270.i 66 2 (by decide) (by decide)).trans (rfl))]
                have b_276 : 0 ≤ (G_269.1 66 4).toInt ∧ (G_269.1 66 4).toInt ≤ 1600 := hB_G_269.i 66 4 rfl rfl
                have g_277 : (G_269.1 86 0).toInt = (G.1 86 0).toInt := by rw [show G_269.1 86 0 = (G.1 86 0) from ((hq_270.i 86 0 (by decide) (by decide)).trans ((hq_253.i 86 0 (by decide) (by decide)).trans ((hq_224.i 86 0 (by decide) (by decide)).trans ((hq_27.i 86 0 (by decide) (by decide)).trans ((hq_22.i 86 0 (by decide) (by decide)).trans ((hq_15.i 86 0 (by decide) (by decide)).trans ((hq_10.i 86 0 (by decide) (by decide)).trans (hq_3.i 86 0 (by decide) (by decide)))))))))]
                have g_278 : (G_269.1 86 1).toInt = (G.1 86 1).toInt := by rw [show G_269.1 86 1 = (G.1 86 1) from ((hq_270.i 86 1 (by decide) (by decide)).trans ((hq_253.i 86 1 (by decide) (by decide)).trans ((hq_224.i 86 1 (by decide) (by decide)).trans ((hq_27.i 86 1 (by decide) (by decide)).trans ((hq_22.i 86 1 (by decide) (by decide)).trans ((hq_15.i 86 1 (by decide) (by decide)).trans ((hq_10.i 86 1 (by decide) (by decide)).trans (hq_3.i 86 1 (by decide) (by decide)))))))))]
                have g_279 : (G_269.1 86 2).toInt = (G.1 86 2).toInt := by rw [show G_269.1 86 2 = (G.1 86 2) from ((hq_270.i 86 2 (by decide) (by decide)).trans ((hq_253.i 86 2 (by decide) (by decide)).trans ((hq_224.i 86 2 (by decide) (by decide)).trans ((hq_27.i 86 2 (by decide) (by decide)).trans ((hq_22.i 86 2 (by decide) (by decide)).trans ((hq_15.i 86 2 (by decide) (by decide)).trans ((hq_10.i 86 2 (by decide) (by decide)).trans (hq_3.i 86 2 (by decide) (by decide)))))))))]
                exact W.vret hx hb hr (fun t ht _ => ⟨⟨G_269, rfl, (Q_readLine_mk ⟨hB_G_269, hF, (by omega), ⟨r_1, G_2, hX_5, (Or.inr ⟨G_8, hX_11, hB_G_8, hq_10, ⟨r_13, G_14, hX_17, (Or.inr ⟨G_20, hX_23, hB_G_20, hq_22, ⟨r_25, G_26, hX_29, (Or.inl ⟨c_212, ⟨c_214, ⟨G_223, hX_226, (Or.inl ⟨c_228, (Or.inr ⟨c_235, ⟨G_252, hX_255, (Or.inl ⟨c_257, ⟨G_269, hX_272, rfl⟩⟩)⟩⟩)⟩)⟩⟩⟩)⟩⟩)⟩⟩)⟩⟩), wd_t ht hW⟩, hS.F ht⟩) hS.2.2 dX12_readLine_232
    refine lv_if_eq (tgt := 50) hx hb dX12_readLine_32 (by decide) (fun c_280 => ?_) (fun c_280 => ?_)
    · have c_280 : r_13.toInt = 0 := xI_eq rfl rfl c_280
      exact hJ_21 () _ _ _ ⟨G_14, (Jn_n_readLine_2_mk (Or.inl ⟨c_280, rfl⟩)), hW, hB_G_14, hF, Fr.rf, hS, lv_sub hl [0] rfl⟩
    · have c_280 : r_13.toInt ≠ 0 := xI_ne rfl rfl c_280
      refine lv_aload_n hx hb dX12_readLine_35 rfl (lv_at hl 0 rfl) ?_
      have b_281 : 0 ≤ (G.1 66 46).toInt ∧ (G.1 66 46).toInt ≤ 4 := hB_G.i 66 46 rfl rfl
      refine S_getI (v := (G.1 66 46)) (C := RX12) (T := TX12) (N := 89) hx hb hg iX12 hown hK hW kd_66 rfl 46 (by decide) (hg (Cond.fieldLink RX12 379 "SlabWalkModel" "nWalkers" "I") m1360) (fun _ h9 => h9) rfl ((hq_15.i 66 46 (by decide) (by decide)).trans ((hq_10.i 66 46 (by decide) (by decide)).trans (hq_3.i 66 46 (by decide) (by decide)))) dX12_readLine_36 ?_
      refine lv_iconst (v := 4) hx hb dX12_readLine_39 (by decide) ?_
      refine lv_icmp_ge (tgt := 50) hx hb dX12_readLine_40 (by decide) (fun c_282 => ?_) (fun c_282 => ?_)
      · have c_282 : 4 ≤ (G.1 66 46).toInt := xI_le rfl rfl c_282
        exact hJ_21 () _ _ _ ⟨G_14, (Jn_n_readLine_2_mk (Or.inr ⟨c_280, ⟨c_282, rfl⟩⟩)), hW, hB_G_14, hF, Fr.rf, hS, lv_sub hl [0] rfl⟩
      · have c_282 : (G.1 66 46).toInt < 4 := xI_nle rfl rfl c_282
        refine lv_aload_n hx hb dX12_readLine_43 rfl (lv_at hl 0 rfl) ?_
        have b_283 : 0 ≤ (G.1 66 2).toInt ∧ (G.1 66 2).toInt ≤ 4 := hB_G.i 66 2 rfl rfl
        have g_284 : (G_14.1 66 2).toInt = (G.1 66 2).toInt := by rw [show G_14.1 66 2 = (G.1 66 2) from ((hq_15.i 66 2 (by decide) (by decide)).trans ((hq_10.i 66 2 (by decide) (by decide)).trans (hq_3.i 66 2 (by decide) (by decide))))]
        have g_285 : (G_14.1 66 46).toInt = (G.1 66 46).toInt := by rw [show G_14.1 66 46 = (G.1 66 46) from ((hq_15.i 66 46 (by decide) (by decide)).trans ((hq_10.i 66 46 (by decide) (by decide)).trans ((hq_3.i 66 46 (by decide) (by decide)).trans (rfl))))]
        have g_286 : gN G_14 = gN G := gN_fr (rs := []) (fs := []) (((Fr.rf.call hq_3 (by decide) (by decide)).call hq_10 (by decide) (by decide)).call hq_15 (by decide) (by decide)) (by decide) (by decide)
        have b_287 : 0 ≤ (G.1 66 4).toInt ∧ (G.1 66 4).toInt ≤ 1600 := hB_G.i 66 4 rfl rfl
        have g_288 : (G_14.1 66 4).toInt = (G.1 66 4).toInt := by rw [show G_14.1 66 4 = (G.1 66 4) from ((hq_15.i 66 4 (by decide) (by decide)).trans ((hq_10.i 66 4 (by decide) (by decide)).trans (hq_3.i 66 4 (by decide) (by decide))))]
        have g_289 : (G_14.1 66 6).toInt = (G.1 66 6).toInt := by rw [show G_14.1 66 6 = (G.1 66 6) from ((hq_15.i 66 6 (by decide) (by decide)).trans ((hq_10.i 66 6 (by decide) (by decide)).trans ((hq_3.i 66 6 (by decide) (by decide)).trans (rfl))))]
        refine S_callv (va_runV (As := []) (rest := []) ⟨hx, hb, hml, hown, hts⟩ (n_readWalker l D k A a z G_14  (by omega) (by omega) (by omega)) (cwV 0 hts (gd_V hgd m1698 m1700 m66 m131 m1701) rfl rfl rfl (by decide +kernel) ⟨Nat.le_of_ble_eq_true rfl, Nat.le_of_ble_eq_true rfl⟩) (pre_V hW hB_G_14 hK hZ hS kd_66 rfl) rfl rfl hl.1 rfl (lv_room (Nat.le_of_ble_eq_true rfl)) dX12_readLine_44 ⟨Nat.le_of_ble_eq_true rfl, Nat.le_of_ble_eq_true rfl⟩) hS (fun G_291 H locs hpo hW hS => ?_)
        have hX_294 : Q_readWalker G_14 G_291 := hpo
        obtain ⟨hB_G_291, hq_292, hp_293, -⟩ := hpo
        have hF := hF.call hq_292 (by decide) (by decide)
        refine lv_goto (tgt := 200) hx hb dX12_readLine_47 (by decide) ?_
        refine lv_aload_n hx hb dX12_readLine_200 rfl (lv_at hl 0 rfl) ?_
        have b_295 : 0 ≤ (G_291.1 66 2).toInt ∧ (G_291.1 66 2).toInt ≤ 4 := hB_G_291.i 66 2 rfl rfl
        refine S_getI (v := (G_291.1 66 2)) (C := RX12) (T := TX12) (N := 89) hx hb hg iX12 hown hK hW kd_66 rfl 2 (by decide) (hg (Cond.fieldLink RX12 218 "SlabWalkModel" "fault" "I") m1316) (fun _ h9 => h9) rfl rfl dX12_readLine_201 ?_
        refine lv_if_ne (tgt := 221) hx hb dX12_readLine_204 (by decide) (fun c_296 => ?_) (fun c_296 => ?_)
        · have c_296 : (G_291.1 66 2).toInt ≠ 0 := xI_ne rfl rfl c_296
          refine lv_aload_n hx hb dX12_readLine_221 rfl (lv_at hl 0 rfl) ?_
          refine S_getI (v := (G_291.1 66 2)) (C := RX12) (T := TX12) (N := 89) hx hb hg iX12 hown hK hW kd_66 rfl 2 (by decide) (hg (Cond.fieldLink RX12 218 "SlabWalkModel" "fault" "I") m1316) (fun _ h9 => h9) rfl rfl dX12_readLine_222 ?_
          refine lv_if_ne (tgt := 232) hx hb dX12_readLine_225 (by decide) (fun c_297 => ?_) (fun c_297 => ?_)
          · have c_297 : (G_291.1 66 2).toInt ≠ 0 := xI_ne rfl rfl c_297
            have g_298 : gE G_291 = gE G := gE_fr (rs := [68, 82, 83, 84, 85]) (fs := [(66, 2), (66, 3), (66, 4), (66, 6), (66, 7), (66, 8), (66, 9), (66, 46)]) ((((Fr.rf.call hq_3 (by decide) (by decide)).call hq_10 (by decide) (by decide)).call hq_15 (by decide) (by decide)).call hq_292 (by decide) (by decide)) (by decide) (by decide)
            have b_299 : 0 ≤ (G_291.1 66 4).toInt ∧ (G_291.1 66 4).toInt ≤ 1600 := hB_G_291.i 66 4 rfl rfl
            have g_300 : (G_291.1 86 0).toInt = (G.1 86 0).toInt := by rw [show G_291.1 86 0 = (G.1 86 0) from ((hq_292.i 86 0 (by decide) (by decide)).trans ((hq_15.i 86 0 (by decide) (by decide)).trans ((hq_10.i 86 0 (by decide) (by decide)).trans (hq_3.i 86 0 (by decide) (by decide)))))]
            have g_301 : (G_291.1 86 1).toInt = (G.1 86 1).toInt := by rw [show G_291.1 86 1 = (G.1 86 1) from ((hq_292.i 86 1 (by decide) (by decide)).trans ((hq_15.i 86 1 (by decide) (by decide)).trans ((hq_10.i 86 1 (by decide) (by decide)).trans (hq_3.i 86 1 (by decide) (by decide)))))]
            have g_302 : (G_291.1 86 2).toInt = (G.1 86 2).toInt := by rw [show G_291.1 86 2 = (G.1 86 2) from ((hq_292.i 86 2 (by decide) (by decide)).trans ((hq_15.i 86 2 (by decide) (by decide)).trans ((hq_10.i 86 2 (by decide) (by decide)).trans (hq_3.i 86 2 (by decide) (by decide)))))]
            exact W.vret hx hb hr (fun t ht _ => ⟨⟨G_291, rfl, (Q_readLine_mk ⟨hB_G_291, hF, (by omega), ⟨r_1, G_2, hX_5, (Or.inr ⟨G_8, hX_11, hB_G_8, hq_10, ⟨r_13, G_14, hX_17, (Or.inl ⟨c_280, ⟨c_282, ⟨G_291, hX_294, (Or.inr ⟨c_296, rfl⟩)⟩⟩⟩)⟩⟩)⟩⟩), wd_t ht hW⟩, hS.F ht⟩) hS.2.2 dX12_readLine_232
          · have c_297 : (G_291.1 66 2).toInt = 0 := xI_eq rfl rfl c_297
            exfalso; omega
        · have c_296 : (G_291.1 66 2).toInt = 0 := xI_eq rfl rfl c_296
          refine lv_aload_n hx hb dX12_readLine_207 rfl (lv_at hl 0 rfl) ?_
          refine S_getI (v := (G_291.1 66 6)) (C := RX12) (T := TX12) (N := 89) hx hb hg iX12 hown hK hW kd_66 rfl 6 (by decide) (hg (Cond.fieldLink RX12 205 "SlabWalkModel" "sort" "I") m1320) (fun _ h9 => h9) rfl rfl dX12_readLine_208 ?_
          refine lv_bipush (v := 59) hx hb dX12_readLine_211 (by decide) ?_
          refine lv_icmp_eq (tgt := 221) hx hb dX12_readLine_213 (by decide) (fun c_303 => ?_) (fun c_303 => ?_)
          · have c_303 : (G_291.1 66 6).toInt = 59 := xI_eq rfl rfl c_303
            refine lv_aload_n hx hb dX12_readLine_221 rfl (lv_at hl 0 rfl) ?_
            refine S_getI (v := (G_291.1 66 2)) (C := RX12) (T := TX12) (N := 89) hx hb hg iX12 hown hK hW kd_66 rfl 2 (by decide) (hg (Cond.fieldLink RX12 218 "SlabWalkModel" "fault" "I") m1316) (fun _ h9 => h9) rfl rfl dX12_readLine_222 ?_
            refine lv_if_ne (tgt := 232) hx hb dX12_readLine_225 (by decide) (fun c_304 => ?_) (fun c_304 => ?_)
            · have c_304 : (G_291.1 66 2).toInt ≠ 0 := xI_ne rfl rfl c_304
              exfalso; omega
            · have c_304 : (G_291.1 66 2).toInt = 0 := xI_eq rfl rfl c_304
              refine lv_aload_n hx hb dX12_readLine_228 rfl (lv_at hl 0 rfl) ?_
              have b_305 : 0 ≤ (G_291.1 66 4).toInt ∧ (G_291.1 66 4).toInt ≤ 1600 := hB_G_291.i 66 4 rfl rfl
              refine S_callv (va_runV (As := []) (rest := []) ⟨hx, hb, hml, hown, hts⟩ (n_token l D k A a z G_291  ) (cwV 0 hts (gd_V hgd m1602 m1604 m50 m131 m1605) rfl rfl rfl (by decide +kernel) ⟨Nat.le_of_ble_eq_true rfl, Nat.le_of_ble_eq_true rfl⟩) (pre_V hW hB_G_291 hK hZ hS kd_66 rfl) rfl rfl hl.1 rfl (lv_room (Nat.le_of_ble_eq_true rfl)) dX12_readLine_229 ⟨Nat.le_of_ble_eq_true rfl, Nat.le_of_ble_eq_true rfl⟩) hS (fun G_307 H locs hpo hW hS => ?_)
              have hX_310 : Q_token G_291 G_307 := hpo
              obtain ⟨hB_G_307, hq_308, hp_309, -⟩ := hpo
              have hF := hF.call hq_308 (by decide) (by decide)
              have g_311 : gE G_307 = gE G := gE_fr (rs := [68, 82, 83, 84, 85]) (fs := [(66, 2), (66, 3), (66, 4), (66, 6), (66, 7), (66, 8), (66, 9), (66, 46)]) (((((Fr.rf.call hq_3 (by decide) (by decide)).call hq_10 (by decide) (by decide)).call hq_15 (by decide) (by decide)).call hq_292 (by decide) (by decide)).call hq_308 (by decide) (by decide)) (by decide) (by decide)
              have g_312 : gN G_307 = gN G_291 := gN_fr (rs := []) (fs := [(66, 4), (66, 6), (66, 7), (66, 8), (66, 9)]) (Fr.rf.call hq_308 (by decide) (by decide)) (by decide) (by decide)
              have g_313 : (G_307.1 66 2).toInt = (G_291.1 66 2).toInt := by rw [show G_307.1 66 2 = (G_291.1 66 2) from ((hq_308.i 66 2 (by decide) (by decide)).trans (rfl))]
              have b_314 : 0 ≤ (G_307.1 66 4).toInt ∧ (G_307.1 66 4).toInt ≤ 1600 := hB_G_307.i 66 4 rfl rfl
              have g_315 : (G_307.1 86 0).toInt = (G.1 86 0).toInt := by rw [show G_307.1 86 0 = (G.1 86 0) from ((hq_308.i 86 0 (by decide) (by decide)).trans ((hq_292.i 86 0 (by decide) (by decide)).trans ((hq_15.i 86 0 (by decide) (by decide)).trans ((hq_10.i 86 0 (by decide) (by decide)).trans (hq_3.i 86 0 (by decide) (by decide))))))]
              have g_316 : (G_307.1 86 1).toInt = (G.1 86 1).toInt := by rw [show G_307.1 86 1 = (G.1 86 1) from ((hq_308.i 86 1 (by decide) (by decide)).trans ((hq_292.i 86 1 (by decide) (by decide)).trans ((hq_15.i 86 1 (by decide) (by decide)).trans ((hq_10.i 86 1 (by decide) (by decide)).trans (hq_3.i 86 1 (by decide) (by decide))))))]
              have g_317 : (G_307.1 86 2).toInt = (G.1 86 2).toInt := by rw [show G_307.1 86 2 = (G.1 86 2) from ((hq_308.i 86 2 (by decide) (by decide)).trans ((hq_292.i 86 2 (by decide) (by decide)).trans ((hq_15.i 86 2 (by decide) (by decide)).trans ((hq_10.i 86 2 (by decide) (by decide)).trans (hq_3.i 86 2 (by decide) (by decide))))))]
              exact W.vret hx hb hr (fun t ht _ => ⟨⟨G_307, rfl, (Q_readLine_mk ⟨hB_G_307, hF, (by omega), ⟨r_1, G_2, hX_5, (Or.inr ⟨G_8, hX_11, hB_G_8, hq_10, ⟨r_13, G_14, hX_17, (Or.inl ⟨c_280, ⟨c_282, ⟨G_291, hX_294, (Or.inl ⟨c_296, (Or.inl ⟨c_303, ⟨G_307, hX_310, rfl⟩⟩)⟩)⟩⟩⟩)⟩⟩)⟩⟩), wd_t ht hW⟩, hS.F ht⟩) hS.2.2 dX12_readLine_232
          · have c_303 : (G_291.1 66 6).toInt ≠ 59 := xI_ne rfl rfl c_303
            refine lv_aload_n hx hb dX12_readLine_216 rfl (lv_at hl 0 rfl) ?_
            refine lv_iconst (v := 2) hx hb dX12_readLine_217 (by decide) ?_
            have qc_318 : (2 : Int32).toInt = 2 := rfl
            refine S_callv (va_runV (As := [.int 2]) (rest := []) ⟨hx, hb, hml, hown, hts⟩ (n_wrong l D k A a z G_291 2 ⟨by decide, by decide⟩) (cwV 1 hts (gd_V hgd m1670 m1672 m59 m131 m1673) rfl rfl rfl (by decide +kernel) ⟨Nat.le_of_ble_eq_true rfl, Nat.le_of_ble_eq_true rfl⟩) (pre_V hW hB_G_291 hK hZ hS kd_66 rfl) rfl rfl hl.1 rfl (lv_room (Nat.le_of_ble_eq_true rfl)) dX12_readLine_218 ⟨Nat.le_of_ble_eq_true rfl, Nat.le_of_ble_eq_true rfl⟩) hS (fun G_320 H locs hpo hW hS => ?_)
            have hX_323 : Q_wrong 2 G_291 G_320 := hpo
            obtain ⟨hB_G_320, hq_321, hp_322, -⟩ := hpo
            have hF := hF.call hq_321 (by decide) (by decide)
            refine lv_aload_n hx hb dX12_readLine_221 rfl (lv_at hl 0 rfl) ?_
            have b_324 : 0 ≤ (G_320.1 66 2).toInt ∧ (G_320.1 66 2).toInt ≤ 4 := hB_G_320.i 66 2 rfl rfl
            refine S_getI (v := (G_320.1 66 2)) (C := RX12) (T := TX12) (N := 89) hx hb hg iX12 hown hK hW kd_66 rfl 2 (by decide) (hg (Cond.fieldLink RX12 218 "SlabWalkModel" "fault" "I") m1316) (fun _ h9 => h9) rfl rfl dX12_readLine_222 ?_
            refine lv_if_ne (tgt := 232) hx hb dX12_readLine_225 (by decide) (fun c_325 => ?_) (fun c_325 => ?_)
            · have c_325 : (G_320.1 66 2).toInt ≠ 0 := xI_ne rfl rfl c_325
              have g_326 : gE G_320 = gE G := gE_fr (rs := [68, 82, 83, 84, 85]) (fs := [(66, 2), (66, 3), (66, 4), (66, 6), (66, 7), (66, 8), (66, 9), (66, 46)]) (((((Fr.rf.call hq_3 (by decide) (by decide)).call hq_10 (by decide) (by decide)).call hq_15 (by decide) (by decide)).call hq_292 (by decide) (by decide)).call hq_321 (by decide) (by decide)) (by decide) (by decide)
              have g_327 : gN G_320 = gN G_291 := gN_fr (rs := []) (fs := [(66, 2), (66, 3)]) (Fr.rf.call hq_321 (by decide) (by decide)) (by decide) (by decide)
              have b_328 : 0 ≤ (G_291.1 66 4).toInt ∧ (G_291.1 66 4).toInt ≤ 1600 := hB_G_291.i 66 4 rfl rfl
              have g_329 : (G_320.1 66 4).toInt = (G_291.1 66 4).toInt := by rw [show G_320.1 66 4 = (G_291.1 66 4) from (hq_321.i 66 4 (by decide) (by decide))]
              have g_330 : (G_320.1 86 0).toInt = (G.1 86 0).toInt := by rw [show G_320.1 86 0 = (G.1 86 0) from ((hq_321.i 86 0 (by decide) (by decide)).trans ((hq_292.i 86 0 (by decide) (by decide)).trans ((hq_15.i 86 0 (by decide) (by decide)).trans ((hq_10.i 86 0 (by decide) (by decide)).trans (hq_3.i 86 0 (by decide) (by decide))))))]
              have g_331 : (G_320.1 86 1).toInt = (G.1 86 1).toInt := by rw [show G_320.1 86 1 = (G.1 86 1) from ((hq_321.i 86 1 (by decide) (by decide)).trans ((hq_292.i 86 1 (by decide) (by decide)).trans ((hq_15.i 86 1 (by decide) (by decide)).trans ((hq_10.i 86 1 (by decide) (by decide)).trans (hq_3.i 86 1 (by decide) (by decide))))))]
              have g_332 : (G_320.1 86 2).toInt = (G.1 86 2).toInt := by rw [show G_320.1 86 2 = (G.1 86 2) from ((hq_321.i 86 2 (by decide) (by decide)).trans ((hq_292.i 86 2 (by decide) (by decide)).trans ((hq_15.i 86 2 (by decide) (by decide)).trans ((hq_10.i 86 2 (by decide) (by decide)).trans (hq_3.i 86 2 (by decide) (by decide))))))]
              exact W.vret hx hb hr (fun t ht _ => ⟨⟨G_320, rfl, (Q_readLine_mk ⟨hB_G_320, hF, (by omega), ⟨r_1, G_2, hX_5, (Or.inr ⟨G_8, hX_11, hB_G_8, hq_10, ⟨r_13, G_14, hX_17, (Or.inl ⟨c_280, ⟨c_282, ⟨G_291, hX_294, (Or.inl ⟨c_296, (Or.inr ⟨c_303, ⟨G_320, hX_323, (Or.inr ⟨c_325, rfl⟩)⟩⟩)⟩)⟩⟩⟩)⟩⟩)⟩⟩), wd_t ht hW⟩, hS.F ht⟩) hS.2.2 dX12_readLine_232
            · have c_325 : (G_320.1 66 2).toInt = 0 := xI_eq rfl rfl c_325
              refine lv_aload_n hx hb dX12_readLine_228 rfl (lv_at hl 0 rfl) ?_
              have b_333 : 0 ≤ (G_291.1 66 4).toInt ∧ (G_291.1 66 4).toInt ≤ 1600 := hB_G_291.i 66 4 rfl rfl
              have g_334 : (G_320.1 66 4).toInt = (G_291.1 66 4).toInt := by rw [show G_320.1 66 4 = (G_291.1 66 4) from (hq_321.i 66 4 (by decide) (by decide))]
              have g_335 : (G_320.1 66 6).toInt = (G_291.1 66 6).toInt := by rw [show G_320.1 66 6 = (G_291.1 66 6) from ((hq_321.i 66 6 (by decide) (by decide)).trans (rfl))]
              refine S_callv (va_runV (As := []) (rest := []) ⟨hx, hb, hml, hown, hts⟩ (n_token l D k A a z G_320  ) (cwV 0 hts (gd_V hgd m1602 m1604 m50 m131 m1605) rfl rfl rfl (by decide +kernel) ⟨Nat.le_of_ble_eq_true rfl, Nat.le_of_ble_eq_true rfl⟩) (pre_V hW hB_G_320 hK hZ hS kd_66 rfl) rfl rfl hl.1 rfl (lv_room (Nat.le_of_ble_eq_true rfl)) dX12_readLine_229 ⟨Nat.le_of_ble_eq_true rfl, Nat.le_of_ble_eq_true rfl⟩) hS (fun G_337 H locs hpo hW hS => ?_)
              have hX_340 : Q_token G_320 G_337 := hpo
              obtain ⟨hB_G_337, hq_338, hp_339, -⟩ := hpo
              have hF := hF.call hq_338 (by decide) (by decide)
              have g_341 : gE G_337 = gE G := gE_fr (rs := [68, 82, 83, 84, 85]) (fs := [(66, 2), (66, 3), (66, 4), (66, 6), (66, 7), (66, 8), (66, 9), (66, 46)]) ((((((Fr.rf.call hq_3 (by decide) (by decide)).call hq_10 (by decide) (by decide)).call hq_15 (by decide) (by decide)).call hq_292 (by decide) (by decide)).call hq_321 (by decide) (by decide)).call hq_338 (by decide) (by decide)) (by decide) (by decide)
              have g_342 : gN G_337 = gN G_291 := gN_fr (rs := []) (fs := [(66, 2), (66, 3), (66, 4), (66, 6), (66, 7), (66, 8), (66, 9)]) ((Fr.rf.call hq_321 (by decide) (by decide)).call hq_338 (by decide) (by decide)) (by decide) (by decide)
              have g_343 : (G_337.1 66 2).toInt = (G_320.1 66 2).toInt := by rw [show G_337.1 66 2 = (G_320.1 66 2) from ((hq_338.i 66 2 (by decide) (by decide)).trans (rfl))]
              have b_344 : 0 ≤ (G_337.1 66 4).toInt ∧ (G_337.1 66 4).toInt ≤ 1600 := hB_G_337.i 66 4 rfl rfl
              have g_345 : (G_337.1 86 0).toInt = (G.1 86 0).toInt := by rw [show G_337.1 86 0 = (G.1 86 0) from ((hq_338.i 86 0 (by decide) (by decide)).trans ((hq_321.i 86 0 (by decide) (by decide)).trans ((hq_292.i 86 0 (by decide) (by decide)).trans ((hq_15.i 86 0 (by decide) (by decide)).trans ((hq_10.i 86 0 (by decide) (by decide)).trans (hq_3.i 86 0 (by decide) (by decide)))))))]
              have g_346 : (G_337.1 86 1).toInt = (G.1 86 1).toInt := by rw [show G_337.1 86 1 = (G.1 86 1) from ((hq_338.i 86 1 (by decide) (by decide)).trans ((hq_321.i 86 1 (by decide) (by decide)).trans ((hq_292.i 86 1 (by decide) (by decide)).trans ((hq_15.i 86 1 (by decide) (by decide)).trans ((hq_10.i 86 1 (by decide) (by decide)).trans (hq_3.i 86 1 (by decide) (by decide)))))))]
              have g_347 : (G_337.1 86 2).toInt = (G.1 86 2).toInt := by rw [show G_337.1 86 2 = (G.1 86 2) from ((hq_338.i 86 2 (by decide) (by decide)).trans ((hq_321.i 86 2 (by decide) (by decide)).trans ((hq_292.i 86 2 (by decide) (by decide)).trans ((hq_15.i 86 2 (by decide) (by decide)).trans ((hq_10.i 86 2 (by decide) (by decide)).trans (hq_3.i 86 2 (by decide) (by decide)))))))]
              exact W.vret hx hb hr (fun t ht _ => ⟨⟨G_337, rfl, (Q_readLine_mk ⟨hB_G_337, hF, (by omega), ⟨r_1, G_2, hX_5, (Or.inr ⟨G_8, hX_11, hB_G_8, hq_10, ⟨r_13, G_14, hX_17, (Or.inl ⟨c_280, ⟨c_282, ⟨G_291, hX_294, (Or.inl ⟨c_296, (Or.inr ⟨c_303, ⟨G_320, hX_323, (Or.inl ⟨c_325, ⟨G_337, hX_340, rfl⟩⟩)⟩⟩)⟩)⟩⟩⟩)⟩⟩)⟩⟩), wd_t ht hW⟩, hS.F ht⟩) hS.2.2 dX12_readLine_232
  refine lv_if_eq (tgt := 25) hx hb dX12_readLine_7 (by decide) (fun c_348 => ?_) (fun c_348 => ?_)
  · have c_348 : r_1.toInt = 0 := xI_eq rfl rfl c_348
    exact hJ_9 () _ _ _ ⟨G_2, (Jn_n_readLine_1_mk (Or.inl ⟨c_348, rfl⟩)), hW, hB_G_2, hF, Fr.rf, hS, lv_sub hl [0] rfl⟩
  · have c_348 : r_1.toInt ≠ 0 := xI_ne rfl rfl c_348
    refine lv_aload_n hx hb dX12_readLine_10 rfl (lv_at hl 0 rfl) ?_
    have b_349 : 0 ≤ (G.1 66 45).toInt ∧ (G.1 66 45).toInt ≤ 3 := hB_G.i 66 45 rfl rfl
    refine S_getI (v := (G.1 66 45)) (C := RX12) (T := TX12) (N := 89) hx hb hg iX12 hown hK hW kd_66 rfl 45 (by decide) (hg (Cond.fieldLink RX12 359 "SlabWalkModel" "nStreets" "I") m1359) (fun _ h9 => h9) rfl (hq_3.i 66 45 (by decide) (by decide)) dX12_readLine_11 ?_
    refine lv_iconst (v := 3) hx hb dX12_readLine_14 (by decide) ?_
    refine lv_icmp_ge (tgt := 25) hx hb dX12_readLine_15 (by decide) (fun c_350 => ?_) (fun c_350 => ?_)
    · have c_350 : 3 ≤ (G.1 66 45).toInt := xI_le rfl rfl c_350
      exact hJ_9 () _ _ _ ⟨G_2, (Jn_n_readLine_1_mk (Or.inr ⟨c_348, ⟨c_350, rfl⟩⟩)), hW, hB_G_2, hF, Fr.rf, hS, lv_sub hl [0] rfl⟩
    · have c_350 : (G.1 66 45).toInt < 3 := xI_nle rfl rfl c_350
      refine lv_aload_n hx hb dX12_readLine_18 rfl (lv_at hl 0 rfl) ?_
      have b_351 : 0 ≤ (G.1 66 2).toInt ∧ (G.1 66 2).toInt ≤ 4 := hB_G.i 66 2 rfl rfl
      have g_352 : (G_2.1 66 2).toInt = (G.1 66 2).toInt := by rw [show G_2.1 66 2 = (G.1 66 2) from (hq_3.i 66 2 (by decide) (by decide))]
      have g_353 : (G_2.1 66 45).toInt = (G.1 66 45).toInt := by rw [show G_2.1 66 45 = (G.1 66 45) from ((hq_3.i 66 45 (by decide) (by decide)).trans (rfl))]
      have b_354 : 0 ≤ (G.1 66 4).toInt ∧ (G.1 66 4).toInt ≤ 1600 := hB_G.i 66 4 rfl rfl
      have g_355 : (G_2.1 66 4).toInt = (G.1 66 4).toInt := by rw [show G_2.1 66 4 = (G.1 66 4) from (hq_3.i 66 4 (by decide) (by decide))]
      have g_356 : (G_2.1 66 6).toInt = (G.1 66 6).toInt := by rw [show G_2.1 66 6 = (G.1 66 6) from (hq_3.i 66 6 (by decide) (by decide))]
      refine S_callv (va_runV (As := []) (rest := []) ⟨hx, hb, hml, hown, hts⟩ (n_readStreet l D k A a z G_2  (by omega) (by omega)) (cwV 0 hts (gd_V hgd m1628 m1630 m54 m131 m1631) rfl rfl rfl (by decide +kernel) ⟨Nat.le_of_ble_eq_true rfl, Nat.le_of_ble_eq_true rfl⟩) (pre_V hW hB_G_2 hK hZ hS kd_66 rfl) rfl rfl hl.1 rfl (lv_room (Nat.le_of_ble_eq_true rfl)) dX12_readLine_19 ⟨Nat.le_of_ble_eq_true rfl, Nat.le_of_ble_eq_true rfl⟩) hS (fun G_358 H locs hpo hW hS => ?_)
      have hX_361 : Q_readStreet G_2 G_358 := hpo
      obtain ⟨hB_G_358, hq_359, hp_360, -⟩ := hpo
      have hF := hF.call hq_359 (by decide) (by decide)
      refine lv_goto (tgt := 200) hx hb dX12_readLine_22 (by decide) ?_
      refine lv_aload_n hx hb dX12_readLine_200 rfl (lv_at hl 0 rfl) ?_
      have b_362 : 0 ≤ (G_358.1 66 2).toInt ∧ (G_358.1 66 2).toInt ≤ 4 := hB_G_358.i 66 2 rfl rfl
      refine S_getI (v := (G_358.1 66 2)) (C := RX12) (T := TX12) (N := 89) hx hb hg iX12 hown hK hW kd_66 rfl 2 (by decide) (hg (Cond.fieldLink RX12 218 "SlabWalkModel" "fault" "I") m1316) (fun _ h9 => h9) rfl rfl dX12_readLine_201 ?_
      refine lv_if_ne (tgt := 221) hx hb dX12_readLine_204 (by decide) (fun c_363 => ?_) (fun c_363 => ?_)
      · have c_363 : (G_358.1 66 2).toInt ≠ 0 := xI_ne rfl rfl c_363
        refine lv_aload_n hx hb dX12_readLine_221 rfl (lv_at hl 0 rfl) ?_
        refine S_getI (v := (G_358.1 66 2)) (C := RX12) (T := TX12) (N := 89) hx hb hg iX12 hown hK hW kd_66 rfl 2 (by decide) (hg (Cond.fieldLink RX12 218 "SlabWalkModel" "fault" "I") m1316) (fun _ h9 => h9) rfl rfl dX12_readLine_222 ?_
        refine lv_if_ne (tgt := 232) hx hb dX12_readLine_225 (by decide) (fun c_364 => ?_) (fun c_364 => ?_)
        · have c_364 : (G_358.1 66 2).toInt ≠ 0 := xI_ne rfl rfl c_364
          have g_365 : gE G_358 = gE G := gE_fr (rs := [68, 77, 78, 79, 80, 81]) (fs := [(66, 2), (66, 3), (66, 4), (66, 6), (66, 7), (66, 8), (66, 9), (66, 45)]) ((Fr.rf.call hq_3 (by decide) (by decide)).call hq_359 (by decide) (by decide)) (by decide) (by decide)
          have g_366 : gN G_358 = gN G := gN_fr (rs := [68, 77, 78, 79, 80, 81]) (fs := [(66, 2), (66, 3), (66, 4), (66, 6), (66, 7), (66, 8), (66, 9), (66, 45)]) ((Fr.rf.call hq_3 (by decide) (by decide)).call hq_359 (by decide) (by decide)) (by decide) (by decide)
          have b_367 : 0 ≤ (G_358.1 66 4).toInt ∧ (G_358.1 66 4).toInt ≤ 1600 := hB_G_358.i 66 4 rfl rfl
          have g_368 : (G_358.1 86 0).toInt = (G.1 86 0).toInt := by rw [show G_358.1 86 0 = (G.1 86 0) from ((hq_359.i 86 0 (by decide) (by decide)).trans (hq_3.i 86 0 (by decide) (by decide)))]
          have g_369 : (G_358.1 86 1).toInt = (G.1 86 1).toInt := by rw [show G_358.1 86 1 = (G.1 86 1) from ((hq_359.i 86 1 (by decide) (by decide)).trans (hq_3.i 86 1 (by decide) (by decide)))]
          have g_370 : (G_358.1 86 2).toInt = (G.1 86 2).toInt := by rw [show G_358.1 86 2 = (G.1 86 2) from ((hq_359.i 86 2 (by decide) (by decide)).trans (hq_3.i 86 2 (by decide) (by decide)))]
          exact W.vret hx hb hr (fun t ht _ => ⟨⟨G_358, rfl, (Q_readLine_mk ⟨hB_G_358, hF, (by omega), ⟨r_1, G_2, hX_5, (Or.inl ⟨c_348, ⟨c_350, ⟨G_358, hX_361, (Or.inr ⟨c_363, rfl⟩)⟩⟩⟩)⟩⟩), wd_t ht hW⟩, hS.F ht⟩) hS.2.2 dX12_readLine_232
        · have c_364 : (G_358.1 66 2).toInt = 0 := xI_eq rfl rfl c_364
          exfalso; omega
      · have c_363 : (G_358.1 66 2).toInt = 0 := xI_eq rfl rfl c_363
        refine lv_aload_n hx hb dX12_readLine_207 rfl (lv_at hl 0 rfl) ?_
        refine S_getI (v := (G_358.1 66 6)) (C := RX12) (T := TX12) (N := 89) hx hb hg iX12 hown hK hW kd_66 rfl 6 (by decide) (hg (Cond.fieldLink RX12 205 "SlabWalkModel" "sort" "I") m1320) (fun _ h9 => h9) rfl rfl dX12_readLine_208 ?_
        refine lv_bipush (v := 59) hx hb dX12_readLine_211 (by decide) ?_
        refine lv_icmp_eq (tgt := 221) hx hb dX12_readLine_213 (by decide) (fun c_371 => ?_) (fun c_371 => ?_)
        · have c_371 : (G_358.1 66 6).toInt = 59 := xI_eq rfl rfl c_371
          refine lv_aload_n hx hb dX12_readLine_221 rfl (lv_at hl 0 rfl) ?_
          refine S_getI (v := (G_358.1 66 2)) (C := RX12) (T := TX12) (N := 89) hx hb hg iX12 hown hK hW kd_66 rfl 2 (by decide) (hg (Cond.fieldLink RX12 218 "SlabWalkModel" "fault" "I") m1316) (fun _ h9 => h9) rfl rfl dX12_readLine_222 ?_
          refine lv_if_ne (tgt := 232) hx hb dX12_readLine_225 (by decide) (fun c_372 => ?_) (fun c_372 => ?_)
          · have c_372 : (G_358.1 66 2).toInt ≠ 0 := xI_ne rfl rfl c_372
            exfalso; omega
          · have c_372 : (G_358.1 66 2).toInt = 0 := xI_eq rfl rfl c_372
            refine lv_aload_n hx hb dX12_readLine_228 rfl (lv_at hl 0 rfl) ?_
            have b_373 : 0 ≤ (G_358.1 66 4).toInt ∧ (G_358.1 66 4).toInt ≤ 1600 := hB_G_358.i 66 4 rfl rfl
            refine S_callv (va_runV (As := []) (rest := []) ⟨hx, hb, hml, hown, hts⟩ (n_token l D k A a z G_358  ) (cwV 0 hts (gd_V hgd m1602 m1604 m50 m131 m1605) rfl rfl rfl (by decide +kernel) ⟨Nat.le_of_ble_eq_true rfl, Nat.le_of_ble_eq_true rfl⟩) (pre_V hW hB_G_358 hK hZ hS kd_66 rfl) rfl rfl hl.1 rfl (lv_room (Nat.le_of_ble_eq_true rfl)) dX12_readLine_229 ⟨Nat.le_of_ble_eq_true rfl, Nat.le_of_ble_eq_true rfl⟩) hS (fun G_375 H locs hpo hW hS => ?_)
            have hX_378 : Q_token G_358 G_375 := hpo
            obtain ⟨hB_G_375, hq_376, hp_377, -⟩ := hpo
            have hF := hF.call hq_376 (by decide) (by decide)
            have g_379 : gE G_375 = gE G := gE_fr (rs := [68, 77, 78, 79, 80, 81]) (fs := [(66, 2), (66, 3), (66, 4), (66, 6), (66, 7), (66, 8), (66, 9), (66, 45)]) (((Fr.rf.call hq_3 (by decide) (by decide)).call hq_359 (by decide) (by decide)).call hq_376 (by decide) (by decide)) (by decide) (by decide)
            have g_380 : gN G_375 = gN G := gN_fr (rs := [68, 77, 78, 79, 80, 81]) (fs := [(66, 2), (66, 3), (66, 4), (66, 6), (66, 7), (66, 8), (66, 9), (66, 45)]) (((Fr.rf.call hq_3 (by decide) (by decide)).call hq_359 (by decide) (by decide)).call hq_376 (by decide) (by decide)) (by decide) (by decide)
            have g_381 : (G_375.1 66 2).toInt = (G_358.1 66 2).toInt := by rw [show G_375.1 66 2 = (G_358.1 66 2) from ((hq_376.i 66 2 (by decide) (by decide)).trans (rfl))]
            have b_382 : 0 ≤ (G_375.1 66 4).toInt ∧ (G_375.1 66 4).toInt ≤ 1600 := hB_G_375.i 66 4 rfl rfl
            have g_383 : (G_375.1 86 0).toInt = (G.1 86 0).toInt := by rw [show G_375.1 86 0 = (G.1 86 0) from ((hq_376.i 86 0 (by decide) (by decide)).trans ((hq_359.i 86 0 (by decide) (by decide)).trans (hq_3.i 86 0 (by decide) (by decide))))]
            have g_384 : (G_375.1 86 1).toInt = (G.1 86 1).toInt := by rw [show G_375.1 86 1 = (G.1 86 1) from ((hq_376.i 86 1 (by decide) (by decide)).trans ((hq_359.i 86 1 (by decide) (by decide)).trans (hq_3.i 86 1 (by decide) (by decide))))]
            have g_385 : (G_375.1 86 2).toInt = (G.1 86 2).toInt := by rw [show G_375.1 86 2 = (G.1 86 2) from ((hq_376.i 86 2 (by decide) (by decide)).trans ((hq_359.i 86 2 (by decide) (by decide)).trans (hq_3.i 86 2 (by decide) (by decide))))]
            exact W.vret hx hb hr (fun t ht _ => ⟨⟨G_375, rfl, (Q_readLine_mk ⟨hB_G_375, hF, (by omega), ⟨r_1, G_2, hX_5, (Or.inl ⟨c_348, ⟨c_350, ⟨G_358, hX_361, (Or.inl ⟨c_363, (Or.inl ⟨c_371, ⟨G_375, hX_378, rfl⟩⟩)⟩)⟩⟩⟩)⟩⟩), wd_t ht hW⟩, hS.F ht⟩) hS.2.2 dX12_readLine_232
        · have c_371 : (G_358.1 66 6).toInt ≠ 59 := xI_ne rfl rfl c_371
          refine lv_aload_n hx hb dX12_readLine_216 rfl (lv_at hl 0 rfl) ?_
          refine lv_iconst (v := 2) hx hb dX12_readLine_217 (by decide) ?_
          have qc_386 : (2 : Int32).toInt = 2 := rfl
          refine S_callv (va_runV (As := [.int 2]) (rest := []) ⟨hx, hb, hml, hown, hts⟩ (n_wrong l D k A a z G_358 2 ⟨by decide, by decide⟩) (cwV 1 hts (gd_V hgd m1670 m1672 m59 m131 m1673) rfl rfl rfl (by decide +kernel) ⟨Nat.le_of_ble_eq_true rfl, Nat.le_of_ble_eq_true rfl⟩) (pre_V hW hB_G_358 hK hZ hS kd_66 rfl) rfl rfl hl.1 rfl (lv_room (Nat.le_of_ble_eq_true rfl)) dX12_readLine_218 ⟨Nat.le_of_ble_eq_true rfl, Nat.le_of_ble_eq_true rfl⟩) hS (fun G_388 H locs hpo hW hS => ?_)
          have hX_391 : Q_wrong 2 G_358 G_388 := hpo
          obtain ⟨hB_G_388, hq_389, hp_390, -⟩ := hpo
          have hF := hF.call hq_389 (by decide) (by decide)
          refine lv_aload_n hx hb dX12_readLine_221 rfl (lv_at hl 0 rfl) ?_
          have b_392 : 0 ≤ (G_388.1 66 2).toInt ∧ (G_388.1 66 2).toInt ≤ 4 := hB_G_388.i 66 2 rfl rfl
          refine S_getI (v := (G_388.1 66 2)) (C := RX12) (T := TX12) (N := 89) hx hb hg iX12 hown hK hW kd_66 rfl 2 (by decide) (hg (Cond.fieldLink RX12 218 "SlabWalkModel" "fault" "I") m1316) (fun _ h9 => h9) rfl rfl dX12_readLine_222 ?_
          refine lv_if_ne (tgt := 232) hx hb dX12_readLine_225 (by decide) (fun c_393 => ?_) (fun c_393 => ?_)
          · have c_393 : (G_388.1 66 2).toInt ≠ 0 := xI_ne rfl rfl c_393
            have g_394 : gE G_388 = gE G := gE_fr (rs := [68, 77, 78, 79, 80, 81]) (fs := [(66, 2), (66, 3), (66, 4), (66, 6), (66, 7), (66, 8), (66, 9), (66, 45)]) (((Fr.rf.call hq_3 (by decide) (by decide)).call hq_359 (by decide) (by decide)).call hq_389 (by decide) (by decide)) (by decide) (by decide)
            have g_395 : gN G_388 = gN G := gN_fr (rs := [68, 77, 78, 79, 80, 81]) (fs := [(66, 2), (66, 3), (66, 4), (66, 6), (66, 7), (66, 8), (66, 9), (66, 45)]) (((Fr.rf.call hq_3 (by decide) (by decide)).call hq_359 (by decide) (by decide)).call hq_389 (by decide) (by decide)) (by decide) (by decide)
            have b_396 : 0 ≤ (G_358.1 66 4).toInt ∧ (G_358.1 66 4).toInt ≤ 1600 := hB_G_358.i 66 4 rfl rfl
            have g_397 : (G_388.1 66 4).toInt = (G_358.1 66 4).toInt := by rw [show G_388.1 66 4 = (G_358.1 66 4) from (hq_389.i 66 4 (by decide) (by decide))]
            have g_398 : (G_388.1 86 0).toInt = (G.1 86 0).toInt := by rw [show G_388.1 86 0 = (G.1 86 0) from ((hq_389.i 86 0 (by decide) (by decide)).trans ((hq_359.i 86 0 (by decide) (by decide)).trans (hq_3.i 86 0 (by decide) (by decide))))]
            have g_399 : (G_388.1 86 1).toInt = (G.1 86 1).toInt := by rw [show G_388.1 86 1 = (G.1 86 1) from ((hq_389.i 86 1 (by decide) (by decide)).trans ((hq_359.i 86 1 (by decide) (by decide)).trans (hq_3.i 86 1 (by decide) (by decide))))]
            have g_400 : (G_388.1 86 2).toInt = (G.1 86 2).toInt := by rw [show G_388.1 86 2 = (G.1 86 2) from ((hq_389.i 86 2 (by decide) (by decide)).trans ((hq_359.i 86 2 (by decide) (by decide)).trans (hq_3.i 86 2 (by decide) (by decide))))]
            exact W.vret hx hb hr (fun t ht _ => ⟨⟨G_388, rfl, (Q_readLine_mk ⟨hB_G_388, hF, (by omega), ⟨r_1, G_2, hX_5, (Or.inl ⟨c_348, ⟨c_350, ⟨G_358, hX_361, (Or.inl ⟨c_363, (Or.inr ⟨c_371, ⟨G_388, hX_391, (Or.inr ⟨c_393, rfl⟩)⟩⟩)⟩)⟩⟩⟩)⟩⟩), wd_t ht hW⟩, hS.F ht⟩) hS.2.2 dX12_readLine_232
          · have c_393 : (G_388.1 66 2).toInt = 0 := xI_eq rfl rfl c_393
            refine lv_aload_n hx hb dX12_readLine_228 rfl (lv_at hl 0 rfl) ?_
            have b_401 : 0 ≤ (G_358.1 66 4).toInt ∧ (G_358.1 66 4).toInt ≤ 1600 := hB_G_358.i 66 4 rfl rfl
            have g_402 : (G_388.1 66 4).toInt = (G_358.1 66 4).toInt := by rw [show G_388.1 66 4 = (G_358.1 66 4) from (hq_389.i 66 4 (by decide) (by decide))]
            have g_403 : (G_388.1 66 6).toInt = (G_358.1 66 6).toInt := by rw [show G_388.1 66 6 = (G_358.1 66 6) from ((hq_389.i 66 6 (by decide) (by decide)).trans (rfl))]
            refine S_callv (va_runV (As := []) (rest := []) ⟨hx, hb, hml, hown, hts⟩ (n_token l D k A a z G_388  ) (cwV 0 hts (gd_V hgd m1602 m1604 m50 m131 m1605) rfl rfl rfl (by decide +kernel) ⟨Nat.le_of_ble_eq_true rfl, Nat.le_of_ble_eq_true rfl⟩) (pre_V hW hB_G_388 hK hZ hS kd_66 rfl) rfl rfl hl.1 rfl (lv_room (Nat.le_of_ble_eq_true rfl)) dX12_readLine_229 ⟨Nat.le_of_ble_eq_true rfl, Nat.le_of_ble_eq_true rfl⟩) hS (fun G_405 H locs hpo hW hS => ?_)
            have hX_408 : Q_token G_388 G_405 := hpo
            obtain ⟨hB_G_405, hq_406, hp_407, -⟩ := hpo
            have hF := hF.call hq_406 (by decide) (by decide)
            have g_409 : gE G_405 = gE G := gE_fr (rs := [68, 77, 78, 79, 80, 81]) (fs := [(66, 2), (66, 3), (66, 4), (66, 6), (66, 7), (66, 8), (66, 9), (66, 45)]) ((((Fr.rf.call hq_3 (by decide) (by decide)).call hq_359 (by decide) (by decide)).call hq_389 (by decide) (by decide)).call hq_406 (by decide) (by decide)) (by decide) (by decide)
            have g_410 : gN G_405 = gN G := gN_fr (rs := [68, 77, 78, 79, 80, 81]) (fs := [(66, 2), (66, 3), (66, 4), (66, 6), (66, 7), (66, 8), (66, 9), (66, 45)]) ((((Fr.rf.call hq_3 (by decide) (by decide)).call hq_359 (by decide) (by decide)).call hq_389 (by decide) (by decide)).call hq_406 (by decide) (by decide)) (by decide) (by decide)
            have g_411 : (G_405.1 66 2).toInt = (G_388.1 66 2).toInt := by rw [show G_405.1 66 2 = (G_388.1 66 2) from ((hq_406.i 66 2 (by decide) (by decide)).trans (rfl))]
            have b_412 : 0 ≤ (G_405.1 66 4).toInt ∧ (G_405.1 66 4).toInt ≤ 1600 := hB_G_405.i 66 4 rfl rfl
            have g_413 : (G_405.1 86 0).toInt = (G.1 86 0).toInt := by rw [show G_405.1 86 0 = (G.1 86 0) from ((hq_406.i 86 0 (by decide) (by decide)).trans ((hq_389.i 86 0 (by decide) (by decide)).trans ((hq_359.i 86 0 (by decide) (by decide)).trans (hq_3.i 86 0 (by decide) (by decide)))))]
            have g_414 : (G_405.1 86 1).toInt = (G.1 86 1).toInt := by rw [show G_405.1 86 1 = (G.1 86 1) from ((hq_406.i 86 1 (by decide) (by decide)).trans ((hq_389.i 86 1 (by decide) (by decide)).trans ((hq_359.i 86 1 (by decide) (by decide)).trans (hq_3.i 86 1 (by decide) (by decide)))))]
            have g_415 : (G_405.1 86 2).toInt = (G.1 86 2).toInt := by rw [show G_405.1 86 2 = (G.1 86 2) from ((hq_406.i 86 2 (by decide) (by decide)).trans ((hq_389.i 86 2 (by decide) (by decide)).trans ((hq_359.i 86 2 (by decide) (by decide)).trans (hq_3.i 86 2 (by decide) (by decide)))))]
            exact W.vret hx hb hr (fun t ht _ => ⟨⟨G_405, rfl, (Q_readLine_mk ⟨hB_G_405, hF, (by omega), ⟨r_1, G_2, hX_5, (Or.inl ⟨c_348, ⟨c_350, ⟨G_358, hX_361, (Or.inl ⟨c_363, (Or.inr ⟨c_371, ⟨G_388, hX_391, (Or.inl ⟨c_393, ⟨G_405, hX_408, rfl⟩⟩)⟩⟩)⟩)⟩⟩⟩)⟩⟩), wd_t ht hW⟩, hS.F ht⟩) hS.2.2 dX12_readLine_232
