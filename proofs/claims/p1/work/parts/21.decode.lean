theorem dX11_about_0 : decode cX11_about 0 = .ok (.iload_n 1, 1) := by decide +kernel
theorem dX11_about_1 : decode cX11_about 1 = .ok (.tableswitch 195 0 14 #[75, 83, 91, 99, 104, 115, 126, 137, 145, 153, 161, 169, 174, 182, 187], 75) := by decide +kernel
theorem dX11_about_76 : decode cX11_about 76 = .ok (.aload_n 0, 1) := by decide +kernel
theorem dX11_about_77 : decode cX11_about 77 = .ok (.getfield 10, 3) := by decide +kernel
theorem dX11_about_80 : decode cX11_about 80 = .ok (.getfield 95, 3) := by decide +kernel
theorem dX11_about_83 : decode cX11_about 83 = .ok (.ireturn, 1) := by decide +kernel
theorem dX11_about_84 : decode cX11_about 84 = .ok (.aload_n 0, 1) := by decide +kernel
theorem dX11_about_85 : decode cX11_about 85 = .ok (.getfield 10, 3) := by decide +kernel
theorem dX11_about_88 : decode cX11_about 88 = .ok (.getfield 305, 3) := by decide +kernel
theorem dX11_about_91 : decode cX11_about 91 = .ok (.ireturn, 1) := by decide +kernel
theorem dX11_about_92 : decode cX11_about 92 = .ok (.aload_n 0, 1) := by decide +kernel
theorem dX11_about_93 : decode cX11_about 93 = .ok (.getfield 10, 3) := by decide +kernel
theorem dX11_about_96 : decode cX11_about 96 = .ok (.getfield 228, 3) := by decide +kernel
theorem dX11_about_99 : decode cX11_about 99 = .ok (.ireturn, 1) := by decide +kernel
theorem dX11_about_100 : decode cX11_about 100 = .ok (.aload_n 0, 1) := by decide +kernel
theorem dX11_about_101 : decode cX11_about 101 = .ok (.invokevirtual 131, 3) := by decide +kernel
theorem dX11_about_104 : decode cX11_about 104 = .ok (.ireturn, 1) := by decide +kernel
theorem dX11_about_105 : decode cX11_about 105 = .ok (.aload_n 0, 1) := by decide +kernel
theorem dX11_about_106 : decode cX11_about 106 = .ok (.getfield 65, 3) := by decide +kernel
theorem dX11_about_109 : decode cX11_about 109 = .ok (.getfield 246, 3) := by decide +kernel
theorem dX11_about_112 : decode cX11_about 112 = .ok (.bipush 7, 2) := by decide +kernel
theorem dX11_about_114 : decode cX11_about 114 = .ok (.iaload, 1) := by decide +kernel
theorem dX11_about_115 : decode cX11_about 115 = .ok (.ireturn, 1) := by decide +kernel
theorem dX11_about_116 : decode cX11_about 116 = .ok (.aload_n 0, 1) := by decide +kernel
theorem dX11_about_117 : decode cX11_about 117 = .ok (.getfield 65, 3) := by decide +kernel
theorem dX11_about_120 : decode cX11_about 120 = .ok (.getfield 246, 3) := by decide +kernel
theorem dX11_about_123 : decode cX11_about 123 = .ok (.bipush 8, 2) := by decide +kernel
theorem dX11_about_125 : decode cX11_about 125 = .ok (.iaload, 1) := by decide +kernel
theorem dX11_about_126 : decode cX11_about 126 = .ok (.ireturn, 1) := by decide +kernel
theorem dX11_about_127 : decode cX11_about 127 = .ok (.aload_n 0, 1) := by decide +kernel
theorem dX11_about_128 : decode cX11_about 128 = .ok (.getfield 65, 3) := by decide +kernel
theorem dX11_about_131 : decode cX11_about 131 = .ok (.getfield 246, 3) := by decide +kernel
theorem dX11_about_134 : decode cX11_about 134 = .ok (.bipush 9, 2) := by decide +kernel
theorem dX11_about_136 : decode cX11_about 136 = .ok (.iaload, 1) := by decide +kernel
theorem dX11_about_137 : decode cX11_about 137 = .ok (.ireturn, 1) := by decide +kernel
theorem dX11_about_138 : decode cX11_about 138 = .ok (.aload_n 0, 1) := by decide +kernel
theorem dX11_about_139 : decode cX11_about 139 = .ok (.getfield 65, 3) := by decide +kernel
theorem dX11_about_142 : decode cX11_about 142 = .ok (.getfield 308, 3) := by decide +kernel
theorem dX11_about_145 : decode cX11_about 145 = .ok (.ireturn, 1) := by decide +kernel
theorem dX11_about_146 : decode cX11_about 146 = .ok (.aload_n 0, 1) := by decide +kernel
theorem dX11_about_147 : decode cX11_about 147 = .ok (.getfield 65, 3) := by decide +kernel
theorem dX11_about_150 : decode cX11_about 150 = .ok (.getfield 311, 3) := by decide +kernel
theorem dX11_about_153 : decode cX11_about 153 = .ok (.ireturn, 1) := by decide +kernel
theorem dX11_about_154 : decode cX11_about 154 = .ok (.aload_n 0, 1) := by decide +kernel
theorem dX11_about_155 : decode cX11_about 155 = .ok (.getfield 72, 3) := by decide +kernel
theorem dX11_about_158 : decode cX11_about 158 = .ok (.getfield 285, 3) := by decide +kernel
theorem dX11_about_161 : decode cX11_about 161 = .ok (.ireturn, 1) := by decide +kernel
theorem dX11_about_162 : decode cX11_about 162 = .ok (.aload_n 0, 1) := by decide +kernel
theorem dX11_about_163 : decode cX11_about 163 = .ok (.getfield 72, 3) := by decide +kernel
theorem dX11_about_166 : decode cX11_about 166 = .ok (.getfield 278, 3) := by decide +kernel
theorem dX11_about_169 : decode cX11_about 169 = .ok (.ireturn, 1) := by decide +kernel
theorem dX11_about_170 : decode cX11_about 170 = .ok (.aload_n 0, 1) := by decide +kernel
theorem dX11_about_171 : decode cX11_about 171 = .ok (.getfield 83, 3) := by decide +kernel
theorem dX11_about_174 : decode cX11_about 174 = .ok (.ireturn, 1) := by decide +kernel
theorem dX11_about_175 : decode cX11_about 175 = .ok (.aload_n 0, 1) := by decide +kernel
theorem dX11_about_176 : decode cX11_about 176 = .ok (.getfield 10, 3) := by decide +kernel
theorem dX11_about_179 : decode cX11_about 179 = .ok (.getfield 314, 3) := by decide +kernel
theorem dX11_about_182 : decode cX11_about 182 = .ok (.ireturn, 1) := by decide +kernel
theorem dX11_about_183 : decode cX11_about 183 = .ok (.aload_n 0, 1) := by decide +kernel
theorem dX11_about_184 : decode cX11_about 184 = .ok (.getfield 150, 3) := by decide +kernel
theorem dX11_about_187 : decode cX11_about 187 = .ok (.ireturn, 1) := by decide +kernel
theorem dX11_about_188 : decode cX11_about 188 = .ok (.aload_n 0, 1) := by decide +kernel
theorem dX11_about_189 : decode cX11_about 189 = .ok (.getfield 10, 3) := by decide +kernel
theorem dX11_about_192 : decode cX11_about 192 = .ok (.invokevirtual 317, 3) := by decide +kernel
theorem dX11_about_195 : decode cX11_about 195 = .ok (.ireturn, 1) := by decide +kernel
theorem dX11_about_196 : decode cX11_about 196 = .ok (.iconst (-1), 1) := by decide +kernel
theorem dX11_about_197 : decode cX11_about 197 = .ok (.ireturn, 1) := by decide +kernel
theorem dX11_back_0 : decode cX11_back 0 = .ok (.aload_n 0, 1) := by decide +kernel
theorem dX11_back_1 : decode cX11_back 1 = .ok (.getfield 65, 3) := by decide +kernel
theorem dX11_back_4 : decode cX11_back 4 = .ok (.iload_n 1, 1) := by decide +kernel
theorem dX11_back_5 : decode cX11_back 5 = .ok (.invokevirtual 302, 3) := by decide +kernel
theorem dX11_back_8 : decode cX11_back 8 = .ok (.ifCond .eq 10, 3) := by decide +kernel
theorem dX11_back_18 : decode cX11_back 18 = .ok (.iconst (-1), 1) := by decide +kernel
theorem dX11_back_19 : decode cX11_back 19 = .ok (.ireturn, 1) := by decide +kernel
theorem dX11_boldest_0 : decode cX11_boldest 0 = .ok (.aload_n 0, 1) := by decide +kernel
theorem dX11_boldest_1 : decode cX11_boldest 1 = .ok (.iload_n 1, 1) := by decide +kernel
theorem dX11_boldest_2 : decode cX11_boldest 2 = .ok (.iload_n 2, 1) := by decide +kernel
theorem dX11_boldest_3 : decode cX11_boldest 3 = .ok (.iload_n 3, 1) := by decide +kernel
theorem dX11_boldest_4 : decode cX11_boldest 4 = .ok (.iload 4, 2) := by decide +kernel
theorem dX11_boldest_6 : decode cX11_boldest 6 = .ok (.iload 5, 2) := by decide +kernel
theorem dX11_boldest_8 : decode cX11_boldest 8 = .ok (.invokevirtual 211, 3) := by decide +kernel
theorem dX11_boldest_11 : decode cX11_boldest 11 = .ok (.ifCond .ne 5, 3) := by decide +kernel
theorem dX11_boldest_14 : decode cX11_boldest 14 = .ok (.iconst (-1), 1) := by decide +kernel
theorem dX11_boldest_15 : decode cX11_boldest 15 = .ok (.ireturn, 1) := by decide +kernel
theorem dX11_brave_0 : decode cX11_brave 0 = .ok (.aload_n 0, 1) := by decide +kernel
theorem dX11_brave_1 : decode cX11_brave 1 = .ok (.iload_n 1, 1) := by decide +kernel
theorem dX11_brave_2 : decode cX11_brave 2 = .ok (.iload_n 2, 1) := by decide +kernel
theorem dX11_brave_3 : decode cX11_brave 3 = .ok (.iload_n 3, 1) := by decide +kernel
theorem dX11_brave_4 : decode cX11_brave 4 = .ok (.iload 4, 2) := by decide +kernel
theorem dX11_brave_6 : decode cX11_brave 6 = .ok (.iload 5, 2) := by decide +kernel
theorem dX11_brave_8 : decode cX11_brave 8 = .ok (.invokevirtual 211, 3) := by decide +kernel
theorem dX11_brave_11 : decode cX11_brave 11 = .ok (.ifCond .ne 7, 3) := by decide +kernel
theorem dX11_brave_14 : decode cX11_brave 14 = .ok (.ldc2_w 165, 3) := by decide +kernel
theorem dX11_brave_17 : decode cX11_brave 17 = .ok (.lreturn, 1) := by decide +kernel
theorem dX11_canAsk_0 : decode cX11_canAsk 0 = .ok (.aload_n 0, 1) := by decide +kernel
theorem dX11_canAsk_1 : decode cX11_canAsk 1 = .ok (.getfield 10, 3) := by decide +kernel
theorem dX11_canAsk_4 : decode cX11_canAsk 4 = .ok (.iload_n 1, 1) := by decide +kernel
theorem dX11_canAsk_5 : decode cX11_canAsk 5 = .ok (.invokevirtual 328, 3) := by decide +kernel
theorem dX11_canAsk_8 : decode cX11_canAsk 8 = .ok (.ifCond .eq 29, 3) := by decide +kernel
theorem dX11_canAsk_37 : decode cX11_canAsk 37 = .ok (.iconst 0, 1) := by decide +kernel
theorem dX11_canAsk_38 : decode cX11_canAsk 38 = .ok (.ireturn, 1) := by decide +kernel
theorem dX11_canBeBrave_0 : decode cX11_canBeBrave 0 = .ok (.aload_n 0, 1) := by decide +kernel
theorem dX11_canBeBrave_1 : decode cX11_canBeBrave 1 = .ok (.iload_n 1, 1) := by decide +kernel
theorem dX11_canBeBrave_2 : decode cX11_canBeBrave 2 = .ok (.iload_n 2, 1) := by decide +kernel
theorem dX11_canBeBrave_3 : decode cX11_canBeBrave 3 = .ok (.iload_n 3, 1) := by decide +kernel
theorem dX11_canBeBrave_4 : decode cX11_canBeBrave 4 = .ok (.invokevirtual 143, 3) := by decide +kernel
theorem dX11_canBeBrave_7 : decode cX11_canBeBrave 7 = .ok (.ifCond .eq 34, 3) := by decide +kernel
theorem dX11_canBeBrave_41 : decode cX11_canBeBrave 41 = .ok (.iconst 0, 1) := by decide +kernel
theorem dX11_canBeBrave_42 : decode cX11_canBeBrave 42 = .ok (.ireturn, 1) := by decide +kernel
theorem dX11_canGo_0 : decode cX11_canGo 0 = .ok (.aload_n 0, 1) := by decide +kernel
theorem dX11_canGo_1 : decode cX11_canGo 1 = .ok (.getfield 65, 3) := by decide +kernel
theorem dX11_canGo_4 : decode cX11_canGo 4 = .ok (.getfield 246, 3) := by decide +kernel
theorem dX11_canGo_7 : decode cX11_canGo 7 = .ok (.iconst 0, 1) := by decide +kernel
theorem dX11_canGo_8 : decode cX11_canGo 8 = .ok (.iaload, 1) := by decide +kernel
theorem dX11_canGo_9 : decode cX11_canGo 9 = .ok (.istore_n 2, 1) := by decide +kernel
theorem dX11_canGo_10 : decode cX11_canGo 10 = .ok (.aload_n 0, 1) := by decide +kernel
theorem dX11_canGo_11 : decode cX11_canGo 11 = .ok (.getfield 10, 3) := by decide +kernel
theorem dX11_canGo_14 : decode cX11_canGo 14 = .ok (.iload_n 2, 1) := by decide +kernel
theorem dX11_canGo_15 : decode cX11_canGo 15 = .ok (.invokevirtual 328, 3) := by decide +kernel
theorem dX11_canGo_18 : decode cX11_canGo 18 = .ok (.ifCond .eq 29, 3) := by decide +kernel
theorem dX11_canGo_47 : decode cX11_canGo 47 = .ok (.iconst 0, 1) := by decide +kernel
theorem dX11_canGo_48 : decode cX11_canGo 48 = .ok (.ireturn, 1) := by decide +kernel
theorem dX11_chance_0 : decode cX11_chance 0 = .ok (.aload_n 0, 1) := by decide +kernel
theorem dX11_chance_1 : decode cX11_chance 1 = .ok (.getfield 10, 3) := by decide +kernel
theorem dX11_chance_4 : decode cX11_chance 4 = .ok (.iload_n 1, 1) := by decide +kernel
theorem dX11_chance_5 : decode cX11_chance 5 = .ok (.invokevirtual 262, 3) := by decide +kernel
theorem dX11_chance_8 : decode cX11_chance 8 = .ok (.ifCond .eq 12, 3) := by decide +kernel
theorem dX11_chance_20 : decode cX11_chance 20 = .ok (.ldc2_w 165, 3) := by decide +kernel
theorem dX11_chance_23 : decode cX11_chance 23 = .ok (.lreturn, 1) := by decide +kernel
theorem dX11_day_0 : decode cX11_day 0 = .ok (.aload_n 0, 1) := by decide +kernel
theorem dX11_day_1 : decode cX11_day 1 = .ok (.invokevirtual 131, 3) := by decide +kernel
theorem dX11_day_4 : decode cX11_day 4 = .ok (.sipush 1000, 3) := by decide +kernel
theorem dX11_day_7 : decode cX11_day 7 = .ok (.if_icmp .lt 5, 3) := by decide +kernel
theorem dX11_day_12 : decode cX11_day 12 = .ok (.aload_n 0, 1) := by decide +kernel
theorem dX11_day_13 : decode cX11_day 13 = .ok (.getfield 65, 3) := by decide +kernel
theorem dX11_day_16 : decode cX11_day 16 = .ok (.getfield 246, 3) := by decide +kernel
theorem dX11_day_19 : decode cX11_day 19 = .ok (.bipush 6, 2) := by decide +kernel
theorem dX11_day_21 : decode cX11_day 21 = .ok (.dup2, 1) := by decide +kernel
theorem dX11_day_22 : decode cX11_day 22 = .ok (.iaload, 1) := by decide +kernel
theorem dX11_day_23 : decode cX11_day 23 = .ok (.iconst 1, 1) := by decide +kernel
theorem dX11_day_24 : decode cX11_day 24 = .ok (.iadd, 1) := by decide +kernel
theorem dX11_day_25 : decode cX11_day 25 = .ok (.iastore, 1) := by decide +kernel
theorem dX11_day_26 : decode cX11_day 26 = .ok (.aload_n 0, 1) := by decide +kernel
theorem dX11_day_27 : decode cX11_day 27 = .ok (.getfield 65, 3) := by decide +kernel
theorem dX11_day_30 : decode cX11_day 30 = .ok (.invokevirtual 249, 3) := by decide +kernel
theorem dX11_day_33 : decode cX11_day 33 = .ok (.aload_n 0, 1) := by decide +kernel
theorem dX11_day_34 : decode cX11_day 34 = .ok (.invokevirtual 131, 3) := by decide +kernel
theorem dX11_day_37 : decode cX11_day 37 = .ok (.ireturn, 1) := by decide +kernel
theorem dX11_end_0 : decode cX11_end 0 = .ok (.iload_n 1, 1) := by decide +kernel
theorem dX11_end_1 : decode cX11_end 1 = .ok (.ifCond .lt 11, 3) := by decide +kernel
theorem dX11_end_4 : decode cX11_end 4 = .ok (.iload_n 1, 1) := by decide +kernel
theorem dX11_end_5 : decode cX11_end 5 = .ok (.aload_n 0, 1) := by decide +kernel
theorem dX11_end_6 : decode cX11_end 6 = .ok (.getfield 83, 3) := by decide +kernel
theorem dX11_end_9 : decode cX11_end 9 = .ok (.if_icmp .le 5, 3) := by decide +kernel
theorem dX11_end_12 : decode cX11_end 12 = .ok (.iconst (-1), 1) := by decide +kernel
theorem dX11_end_13 : decode cX11_end 13 = .ok (.ireturn, 1) := by decide +kernel
theorem dX11_end_14 : decode cX11_end 14 = .ok (.aload_n 0, 1) := by decide +kernel
theorem dX11_end_15 : decode cX11_end 15 = .ok (.iload_n 1, 1) := by decide +kernel
theorem dX11_end_16 : decode cX11_end 16 = .ok (.putfield 83, 3) := by decide +kernel
theorem dX11_end_19 : decode cX11_end 19 = .ok (.iload_n 1, 1) := by decide +kernel
theorem dX11_end_20 : decode cX11_end 20 = .ok (.ireturn, 1) := by decide +kernel
theorem dX11_even_0 : decode cX11_even 0 = .ok (.aload_n 0, 1) := by decide +kernel
theorem dX11_even_1 : decode cX11_even 1 = .ok (.iload_n 1, 1) := by decide +kernel
theorem dX11_even_2 : decode cX11_even 2 = .ok (.iload_n 2, 1) := by decide +kernel
theorem dX11_even_3 : decode cX11_even 3 = .ok (.iload_n 3, 1) := by decide +kernel
theorem dX11_even_4 : decode cX11_even 4 = .ok (.invokevirtual 143, 3) := by decide +kernel
theorem dX11_even_7 : decode cX11_even 7 = .ok (.ifCond .eq 29, 3) := by decide +kernel
theorem dX11_even_36 : decode cX11_even 36 = .ok (.iconst (-1), 1) := by decide +kernel
theorem dX11_even_37 : decode cX11_even 37 = .ok (.ireturn, 1) := by decide +kernel
theorem dX11_evenest_0 : decode cX11_evenest 0 = .ok (.aload_n 0, 1) := by decide +kernel
theorem dX11_evenest_1 : decode cX11_evenest 1 = .ok (.iload_n 1, 1) := by decide +kernel
theorem dX11_evenest_2 : decode cX11_evenest 2 = .ok (.iload_n 2, 1) := by decide +kernel
theorem dX11_evenest_3 : decode cX11_evenest 3 = .ok (.iload_n 3, 1) := by decide +kernel
theorem dX11_evenest_4 : decode cX11_evenest 4 = .ok (.invokevirtual 143, 3) := by decide +kernel
theorem dX11_evenest_7 : decode cX11_evenest 7 = .ok (.ifCond .eq 14, 3) := by decide +kernel
theorem dX11_evenest_21 : decode cX11_evenest 21 = .ok (.iconst (-1), 1) := by decide +kernel
theorem dX11_evenest_22 : decode cX11_evenest 22 = .ok (.ireturn, 1) := by decide +kernel
theorem dX11_evens_0 : decode cX11_evens 0 = .ok (.aload_n 0, 1) := by decide +kernel
theorem dX11_evens_1 : decode cX11_evens 1 = .ok (.iconst 0, 1) := by decide +kernel
theorem dX11_evens_2 : decode cX11_evens 2 = .ok (.putfield 150, 3) := by decide +kernel
theorem dX11_evens_5 : decode cX11_evens 5 = .ok (.aload_n 0, 1) := by decide +kernel
theorem dX11_evens_6 : decode cX11_evens 6 = .ok (.iload_n 1, 1) := by decide +kernel
theorem dX11_evens_7 : decode cX11_evens 7 = .ok (.iload_n 2, 1) := by decide +kernel
theorem dX11_evens_8 : decode cX11_evens 8 = .ok (.iload_n 3, 1) := by decide +kernel
theorem dX11_evens_9 : decode cX11_evens 9 = .ok (.invokevirtual 143, 3) := by decide +kernel
theorem dX11_evens_12 : decode cX11_evens 12 = .ok (.ifCond .ne 5, 3) := by decide +kernel
theorem dX11_evens_15 : decode cX11_evens 15 = .ok (.iconst (-1), 1) := by decide +kernel
theorem dX11_evens_16 : decode cX11_evens 16 = .ok (.ireturn, 1) := by decide +kernel
theorem dX11_fault_0 : decode cX11_fault 0 = .ok (.iload_n 1, 1) := by decide +kernel
theorem dX11_fault_1 : decode cX11_fault 1 = .ok (.ifCond .ne 16, 3) := by decide +kernel
theorem dX11_fault_4 : decode cX11_fault 4 = .ok (.aload_n 0, 1) := by decide +kernel
theorem dX11_fault_5 : decode cX11_fault 5 = .ok (.getfield 28, 3) := by decide +kernel
theorem dX11_fault_8 : decode cX11_fault 8 = .ok (.getfield 98, 3) := by decide +kernel
theorem dX11_fault_11 : decode cX11_fault 11 = .ok (.getfield 102, 3) := by decide +kernel
theorem dX11_fault_14 : decode cX11_fault 14 = .ok (.goto 22, 3) := by decide +kernel
theorem dX11_fault_17 : decode cX11_fault 17 = .ok (.iload_n 1, 1) := by decide +kernel
theorem dX11_fault_18 : decode cX11_fault 18 = .ok (.iconst 1, 1) := by decide +kernel
theorem dX11_fault_19 : decode cX11_fault 19 = .ok (.if_icmp .ne 16, 3) := by decide +kernel
theorem dX11_fault_22 : decode cX11_fault 22 = .ok (.aload_n 0, 1) := by decide +kernel
theorem dX11_fault_23 : decode cX11_fault 23 = .ok (.getfield 28, 3) := by decide +kernel
theorem dX11_fault_26 : decode cX11_fault 26 = .ok (.getfield 98, 3) := by decide +kernel
theorem dX11_fault_29 : decode cX11_fault 29 = .ok (.getfield 107, 3) := by decide +kernel
theorem dX11_fault_32 : decode cX11_fault 32 = .ok (.goto 4, 3) := by decide +kernel
theorem dX11_fault_35 : decode cX11_fault 35 = .ok (.iconst (-1), 1) := by decide +kernel
theorem dX11_fault_36 : decode cX11_fault 36 = .ok (.ireturn, 1) := by decide +kernel
theorem dX11_feed_0 : decode cX11_feed 0 = .ok (.aload_n 0, 1) := by decide +kernel
theorem dX11_feed_1 : decode cX11_feed 1 = .ok (.getfield 83, 3) := by decide +kernel
theorem dX11_feed_4 : decode cX11_feed 4 = .ok (.bipush 20, 2) := by decide +kernel
theorem dX11_feed_6 : decode cX11_feed 6 = .ok (.iadd, 1) := by decide +kernel
theorem dX11_feed_7 : decode cX11_feed 7 = .ok (.sipush 1600, 3) := by decide +kernel
theorem dX11_feed_10 : decode cX11_feed 10 = .ok (.if_icmp .le 5, 3) := by decide +kernel
theorem dX11_feed_15 : decode cX11_feed 15 = .ok (.aload_n 0, 1) := by decide +kernel
theorem dX11_feed_16 : decode cX11_feed 16 = .ok (.iload_n 1, 1) := by decide +kernel
theorem dX11_feed_17 : decode cX11_feed 17 = .ok (.invokevirtual 87, 3) := by decide +kernel
theorem dX11_feed_20 : decode cX11_feed 20 = .ok (.aload_n 0, 1) := by decide +kernel
theorem dX11_feed_21 : decode cX11_feed 21 = .ok (.iload_n 2, 1) := by decide +kernel
theorem dX11_feed_22 : decode cX11_feed 22 = .ok (.invokevirtual 87, 3) := by decide +kernel
theorem dX11_feed_25 : decode cX11_feed 25 = .ok (.aload_n 0, 1) := by decide +kernel
theorem dX11_feed_26 : decode cX11_feed 26 = .ok (.iload_n 3, 1) := by decide +kernel
theorem dX11_feed_27 : decode cX11_feed 27 = .ok (.invokevirtual 87, 3) := by decide +kernel
theorem dX11_feed_30 : decode cX11_feed 30 = .ok (.aload_n 0, 1) := by decide +kernel
theorem dX11_feed_31 : decode cX11_feed 31 = .ok (.iload 4, 2) := by decide +kernel
theorem dX11_feed_33 : decode cX11_feed 33 = .ok (.invokevirtual 87, 3) := by decide +kernel
theorem dX11_feed_36 : decode cX11_feed 36 = .ok (.aload_n 0, 1) := by decide +kernel
theorem dX11_feed_37 : decode cX11_feed 37 = .ok (.iload 5, 2) := by decide +kernel
theorem dX11_feed_39 : decode cX11_feed 39 = .ok (.invokevirtual 87, 3) := by decide +kernel
theorem dX11_feed_42 : decode cX11_feed 42 = .ok (.aload_n 0, 1) := by decide +kernel
theorem dX11_feed_43 : decode cX11_feed 43 = .ok (.getfield 83, 3) := by decide +kernel
theorem dX11_feed_46 : decode cX11_feed 46 = .ok (.ireturn, 1) := by decide +kernel
theorem dX11_fewest_0 : decode cX11_fewest 0 = .ok (.aload_n 0, 1) := by decide +kernel
theorem dX11_fewest_1 : decode cX11_fewest 1 = .ok (.iconst 0, 1) := by decide +kernel
theorem dX11_fewest_2 : decode cX11_fewest 2 = .ok (.putfield 150, 3) := by decide +kernel
theorem dX11_fewest_5 : decode cX11_fewest 5 = .ok (.aload_n 0, 1) := by decide +kernel
theorem dX11_fewest_6 : decode cX11_fewest 6 = .ok (.iload_n 1, 1) := by decide +kernel
theorem dX11_fewest_7 : decode cX11_fewest 7 = .ok (.iload_n 2, 1) := by decide +kernel
theorem dX11_fewest_8 : decode cX11_fewest 8 = .ok (.iload_n 3, 1) := by decide +kernel
theorem dX11_fewest_9 : decode cX11_fewest 9 = .ok (.invokevirtual 143, 3) := by decide +kernel
theorem dX11_fewest_12 : decode cX11_fewest 12 = .ok (.ifCond .eq 14, 3) := by decide +kernel
theorem dX11_fewest_26 : decode cX11_fewest 26 = .ok (.iconst (-1), 1) := by decide +kernel
theorem dX11_fewest_27 : decode cX11_fewest 27 = .ok (.ireturn, 1) := by decide +kernel
theorem dX11_fits_0 : decode cX11_fits 0 = .ok (.iconst 0, 1) := by decide +kernel
theorem dX11_fits_1 : decode cX11_fits 1 = .ok (.istore_n 2, 1) := by decide +kernel
theorem dX11_fits_2 : decode cX11_fits 2 = .ok (.iconst 0, 1) := by decide +kernel
theorem dX11_fits_3 : decode cX11_fits 3 = .ok (.istore_n 3, 1) := by decide +kernel
theorem dX11_fits_4 : decode cX11_fits 4 = .ok (.iload_n 3, 1) := by decide +kernel
theorem dX11_fits_5 : decode cX11_fits 5 = .ok (.aload_n 0, 1) := by decide +kernel
theorem dX11_fits_6 : decode cX11_fits 6 = .ok (.getfield 10, 3) := by decide +kernel
theorem dX11_fits_9 : decode cX11_fits 9 = .ok (.getfield 228, 3) := by decide +kernel
theorem dX11_fits_12 : decode cX11_fits 12 = .ok (.if_icmp .ge 28, 3) := by decide +kernel
theorem dX11_fits_40 : decode cX11_fits 40 = .ok (.iload_n 2, 1) := by decide +kernel
theorem dX11_fits_41 : decode cX11_fits 41 = .ok (.ireturn, 1) := by decide +kernel
theorem dX11_foot_0 : decode cX11_foot 0 = .ok (.aload_n 0, 1) := by decide +kernel
theorem dX11_foot_1 : decode cX11_foot 1 = .ok (.iload_n 1, 1) := by decide +kernel
theorem dX11_foot_2 : decode cX11_foot 2 = .ok (.iload_n 2, 1) := by decide +kernel
theorem dX11_foot_3 : decode cX11_foot 3 = .ok (.iload_n 3, 1) := by decide +kernel
theorem dX11_foot_4 : decode cX11_foot 4 = .ok (.invokevirtual 143, 3) := by decide +kernel
theorem dX11_foot_7 : decode cX11_foot 7 = .ok (.ifCond .eq 16, 3) := by decide +kernel
theorem dX11_foot_23 : decode cX11_foot 23 = .ok (.iconst (-1), 1) := by decide +kernel
theorem dX11_foot_24 : decode cX11_foot 24 = .ok (.ireturn, 1) := by decide +kernel
theorem dX11_force_0 : decode cX11_force 0 = .ok (.aload_n 0, 1) := by decide +kernel
theorem dX11_force_1 : decode cX11_force 1 = .ok (.getfield 10, 3) := by decide +kernel
theorem dX11_force_4 : decode cX11_force 4 = .ok (.iload_n 1, 1) := by decide +kernel
theorem dX11_force_5 : decode cX11_force 5 = .ok (.invokevirtual 262, 3) := by decide +kernel
theorem dX11_force_8 : decode cX11_force 8 = .ok (.ifCond .ne 5, 3) := by decide +kernel
theorem dX11_force_11 : decode cX11_force 11 = .ok (.iconst (-1), 1) := by decide +kernel
theorem dX11_force_12 : decode cX11_force 12 = .ok (.ireturn, 1) := by decide +kernel
theorem dX11_gap_0 : decode cX11_gap 0 = .ok (.aload_n 0, 1) := by decide +kernel
theorem dX11_gap_1 : decode cX11_gap 1 = .ok (.getfield 10, 3) := by decide +kernel
theorem dX11_gap_4 : decode cX11_gap 4 = .ok (.iload_n 1, 1) := by decide +kernel
theorem dX11_gap_5 : decode cX11_gap 5 = .ok (.invokevirtual 121, 3) := by decide +kernel
theorem dX11_gap_8 : decode cX11_gap 8 = .ok (.ifCond .eq 14, 3) := by decide +kernel
theorem dX11_gap_22 : decode cX11_gap 22 = .ok (.iconst (-1), 1) := by decide +kernel
theorem dX11_gap_23 : decode cX11_gap 23 = .ok (.ireturn, 1) := by decide +kernel
theorem dX11_go_0 : decode cX11_go 0 = .ok (.aload_n 0, 1) := by decide +kernel
theorem dX11_go_1 : decode cX11_go 1 = .ok (.iload_n 1, 1) := by decide +kernel
theorem dX11_go_2 : decode cX11_go 2 = .ok (.invokevirtual 252, 3) := by decide +kernel
theorem dX11_go_5 : decode cX11_go 5 = .ok (.ifCond .ne 5, 3) := by decide +kernel
theorem dX11_go_8 : decode cX11_go 8 = .ok (.iconst (-1), 1) := by decide +kernel
theorem dX11_go_9 : decode cX11_go 9 = .ok (.ireturn, 1) := by decide +kernel
theorem dX11_image_0 : decode cX11_image 0 = .ok (.aload_n 0, 1) := by decide +kernel
theorem dX11_image_1 : decode cX11_image 1 = .ok (.getfield 65, 3) := by decide +kernel
theorem dX11_image_4 : decode cX11_image 4 = .ok (.iload_n 1, 1) := by decide +kernel
theorem dX11_image_5 : decode cX11_image 5 = .ok (.invokevirtual 299, 3) := by decide +kernel
theorem dX11_image_8 : decode cX11_image 8 = .ok (.ifCond .eq 10, 3) := by decide +kernel
theorem dX11_image_11 : decode cX11_image 11 = .ok (.aload_n 0, 1) := by decide +kernel
theorem dX11_image_12 : decode cX11_image 12 = .ok (.invokevirtual 131, 3) := by decide +kernel
theorem dX11_image_15 : decode cX11_image 15 = .ok (.goto 4, 3) := by decide +kernel
theorem dX11_image_18 : decode cX11_image 18 = .ok (.iconst (-1), 1) := by decide +kernel
theorem dX11_image_19 : decode cX11_image 19 = .ok (.ireturn, 1) := by decide +kernel
theorem dX11_inch_0 : decode cX11_inch 0 = .ok (.aload_n 0, 1) := by decide +kernel
theorem dX11_inch_1 : decode cX11_inch 1 = .ok (.getfield 10, 3) := by decide +kernel
theorem dX11_inch_4 : decode cX11_inch 4 = .ok (.iload_n 1, 1) := by decide +kernel
theorem dX11_inch_5 : decode cX11_inch 5 = .ok (.iload_n 2, 1) := by decide +kernel
theorem dX11_inch_6 : decode cX11_inch 6 = .ok (.invokevirtual 110, 3) := by decide +kernel
theorem dX11_inch_9 : decode cX11_inch 9 = .ok (.ifCond .eq 12, 3) := by decide +kernel
theorem dX11_inch_21 : decode cX11_inch 21 = .ok (.iconst (-1), 1) := by decide +kernel
theorem dX11_inch_22 : decode cX11_inch 22 = .ok (.ireturn, 1) := by decide +kernel
theorem dX11_keeps_0 : decode cX11_keeps 0 = .ok (.aload_n 0, 1) := by decide +kernel
theorem dX11_keeps_1 : decode cX11_keeps 1 = .ok (.iload_n 1, 1) := by decide +kernel
theorem dX11_keeps_2 : decode cX11_keeps 2 = .ok (.iload_n 2, 1) := by decide +kernel
theorem dX11_keeps_3 : decode cX11_keeps 3 = .ok (.iload_n 3, 1) := by decide +kernel
theorem dX11_keeps_4 : decode cX11_keeps 4 = .ok (.invokevirtual 143, 3) := by decide +kernel
theorem dX11_keeps_7 : decode cX11_keeps 7 = .ok (.ifCond .ne 5, 3) := by decide +kernel
theorem dX11_keeps_10 : decode cX11_keeps 10 = .ok (.iconst (-1), 1) := by decide +kernel
theorem dX11_keeps_11 : decode cX11_keeps 11 = .ok (.ireturn, 1) := by decide +kernel
theorem dX11_later_0 : decode cX11_later 0 = .ok (.iload_n 1, 1) := by decide +kernel
theorem dX11_later_1 : decode cX11_later 1 = .ok (.ifCond .lt 25, 3) := by decide +kernel
theorem dX11_later_4 : decode cX11_later 4 = .ok (.iload_n 1, 1) := by decide +kernel
theorem dX11_later_5 : decode cX11_later 5 = .ok (.sipush 1000, 3) := by decide +kernel
theorem dX11_later_8 : decode cX11_later 8 = .ok (.if_icmp .gt 18, 3) := by decide +kernel
theorem dX11_later_11 : decode cX11_later 11 = .ok (.aload_n 0, 1) := by decide +kernel
theorem dX11_later_12 : decode cX11_later 12 = .ok (.getfield 72, 3) := by decide +kernel
theorem dX11_later_15 : decode cX11_later 15 = .ok (.getfield 278, 3) := by decide +kernel
theorem dX11_later_18 : decode cX11_later 18 = .ok (.iload_n 1, 1) := by decide +kernel
theorem dX11_later_19 : decode cX11_later 19 = .ok (.iadd, 1) := by decide +kernel
theorem dX11_later_20 : decode cX11_later 20 = .ok (.ldc_w 281, 3) := by decide +kernel
theorem dX11_later_23 : decode cX11_later 23 = .ok (.if_icmp .le 5, 3) := by decide +kernel
theorem dX11_later_26 : decode cX11_later 26 = .ok (.iconst (-1), 1) := by decide +kernel
theorem dX11_later_27 : decode cX11_later 27 = .ok (.ireturn, 1) := by decide +kernel
theorem dX11_later_28 : decode cX11_later 28 = .ok (.aload_n 0, 1) := by decide +kernel
theorem dX11_later_29 : decode cX11_later 29 = .ok (.getfield 72, 3) := by decide +kernel
theorem dX11_later_32 : decode cX11_later 32 = .ok (.dup, 1) := by decide +kernel
theorem dX11_later_33 : decode cX11_later 33 = .ok (.getfield 278, 3) := by decide +kernel
theorem dX11_later_36 : decode cX11_later 36 = .ok (.iload_n 1, 1) := by decide +kernel
theorem dX11_later_37 : decode cX11_later 37 = .ok (.iadd, 1) := by decide +kernel
theorem dX11_later_38 : decode cX11_later 38 = .ok (.putfield 278, 3) := by decide +kernel
theorem dX11_later_41 : decode cX11_later 41 = .ok (.aload_n 0, 1) := by decide +kernel
theorem dX11_later_42 : decode cX11_later 42 = .ok (.getfield 72, 3) := by decide +kernel
theorem dX11_later_45 : decode cX11_later 45 = .ok (.getfield 278, 3) := by decide +kernel
theorem dX11_later_48 : decode cX11_later 48 = .ok (.ireturn, 1) := by decide +kernel
theorem dX11_leave_0 : decode cX11_leave 0 = .ok (.aload_n 0, 1) := by decide +kernel
theorem dX11_leave_1 : decode cX11_leave 1 = .ok (.iload_n 1, 1) := by decide +kernel
theorem dX11_leave_2 : decode cX11_leave 2 = .ok (.iload_n 2, 1) := by decide +kernel
theorem dX11_leave_3 : decode cX11_leave 3 = .ok (.iconst 0, 1) := by decide +kernel
theorem dX11_leave_4 : decode cX11_leave 4 = .ok (.invokevirtual 143, 3) := by decide +kernel
theorem dX11_leave_7 : decode cX11_leave 7 = .ok (.ifCond .ne 5, 3) := by decide +kernel
theorem dX11_leave_10 : decode cX11_leave 10 = .ok (.iconst (-1), 1) := by decide +kernel
theorem dX11_leave_11 : decode cX11_leave 11 = .ok (.ireturn, 1) := by decide +kernel
theorem dX11_length_0 : decode cX11_length 0 = .ok (.aload_n 0, 1) := by decide +kernel
theorem dX11_length_1 : decode cX11_length 1 = .ok (.getfield 10, 3) := by decide +kernel
theorem dX11_length_4 : decode cX11_length 4 = .ok (.iload_n 1, 1) := by decide +kernel
theorem dX11_length_5 : decode cX11_length 5 = .ok (.invokevirtual 121, 3) := by decide +kernel
theorem dX11_length_8 : decode cX11_length 8 = .ok (.ifCond .eq 15, 3) := by decide +kernel
theorem dX11_length_23 : decode cX11_length 23 = .ok (.iconst (-1), 1) := by decide +kernel
theorem dX11_length_24 : decode cX11_length 24 = .ok (.ireturn, 1) := by decide +kernel
theorem dX11_lies_0 : decode cX11_lies 0 = .ok (.iload_n 1, 1) := by decide +kernel
theorem dX11_lies_1 : decode cX11_lies 1 = .ok (.ifCond .lt 20, 3) := by decide +kernel
theorem dX11_lies_4 : decode cX11_lies 4 = .ok (.iload_n 1, 1) := by decide +kernel
theorem dX11_lies_5 : decode cX11_lies 5 = .ok (.aload_n 0, 1) := by decide +kernel
theorem dX11_lies_6 : decode cX11_lies 6 = .ok (.getfield 150, 3) := by decide +kernel
theorem dX11_lies_9 : decode cX11_lies 9 = .ok (.if_icmp .ge 12, 3) := by decide +kernel
theorem dX11_lies_21 : decode cX11_lies 21 = .ok (.iconst (-1), 1) := by decide +kernel
theorem dX11_lies_22 : decode cX11_lies 22 = .ok (.ireturn, 1) := by decide +kernel
theorem dX11_line_0 : decode cX11_line 0 = .ok (.aload_n 0, 1) := by decide +kernel
theorem dX11_line_1 : decode cX11_line 1 = .ok (.getfield 10, 3) := by decide +kernel
theorem dX11_line_4 : decode cX11_line 4 = .ok (.iload_n 1, 1) := by decide +kernel
theorem dX11_line_5 : decode cX11_line 5 = .ok (.iload_n 3, 1) := by decide +kernel
theorem dX11_line_6 : decode cX11_line 6 = .ok (.invokevirtual 110, 3) := by decide +kernel
theorem dX11_line_9 : decode cX11_line 9 = .ok (.ifCond .eq 14, 3) := by decide +kernel
theorem dX11_line_23 : decode cX11_line 23 = .ok (.iconst (-1), 1) := by decide +kernel
theorem dX11_line_24 : decode cX11_line 24 = .ok (.ireturn, 1) := by decide +kernel
theorem dX11_pavement_0 : decode cX11_pavement 0 = .ok (.aload_n 0, 1) := by decide +kernel
theorem dX11_pavement_1 : decode cX11_pavement 1 = .ok (.getfield 28, 3) := by decide +kernel
theorem dX11_pavement_4 : decode cX11_pavement 4 = .ok (.aload_n 0, 1) := by decide +kernel
theorem dX11_pavement_5 : decode cX11_pavement 5 = .ok (.getfield 83, 3) := by decide +kernel
theorem dX11_pavement_8 : decode cX11_pavement 8 = .ok (.aload_n 0, 1) := by decide +kernel
theorem dX11_pavement_9 : decode cX11_pavement 9 = .ok (.getfield 16, 3) := by decide +kernel
theorem dX11_pavement_12 : decode cX11_pavement 12 = .ok (.invokevirtual 91, 3) := by decide +kernel
theorem dX11_pavement_15 : decode cX11_pavement 15 = .ok (.istore_n 1, 1) := by decide +kernel
theorem dX11_pavement_16 : decode cX11_pavement 16 = .ok (.aload_n 0, 1) := by decide +kernel
theorem dX11_pavement_17 : decode cX11_pavement 17 = .ok (.iconst 0, 1) := by decide +kernel
theorem dX11_pavement_18 : decode cX11_pavement 18 = .ok (.putfield 83, 3) := by decide +kernel
theorem dX11_pavement_21 : decode cX11_pavement 21 = .ok (.iload_n 1, 1) := by decide +kernel
theorem dX11_pavement_22 : decode cX11_pavement 22 = .ok (.ifCond .ne 5, 3) := by decide +kernel
theorem dX11_pavement_27 : decode cX11_pavement 27 = .ok (.aload_n 0, 1) := by decide +kernel
theorem dX11_pavement_28 : decode cX11_pavement 28 = .ok (.getfield 16, 3) := by decide +kernel
theorem dX11_pavement_31 : decode cX11_pavement 31 = .ok (.astore_n 2, 1) := by decide +kernel
theorem dX11_pavement_32 : decode cX11_pavement 32 = .ok (.aload_n 0, 1) := by decide +kernel
theorem dX11_pavement_33 : decode cX11_pavement 33 = .ok (.aload_n 0, 1) := by decide +kernel
theorem dX11_pavement_34 : decode cX11_pavement 34 = .ok (.getfield 10, 3) := by decide +kernel
theorem dX11_pavement_37 : decode cX11_pavement 37 = .ok (.putfield 16, 3) := by decide +kernel
theorem dX11_pavement_40 : decode cX11_pavement 40 = .ok (.aload_n 0, 1) := by decide +kernel
theorem dX11_pavement_41 : decode cX11_pavement 41 = .ok (.aload_n 2, 1) := by decide +kernel
theorem dX11_pavement_42 : decode cX11_pavement 42 = .ok (.putfield 10, 3) := by decide +kernel
theorem dX11_pavement_45 : decode cX11_pavement 45 = .ok (.aload_n 0, 1) := by decide +kernel
theorem dX11_pavement_46 : decode cX11_pavement 46 = .ok (.invokevirtual 80, 3) := by decide +kernel
theorem dX11_pavement_49 : decode cX11_pavement 49 = .ok (.aload_n 0, 1) := by decide +kernel
theorem dX11_pavement_50 : decode cX11_pavement 50 = .ok (.getfield 10, 3) := by decide +kernel
theorem dX11_pavement_53 : decode cX11_pavement 53 = .ok (.getfield 95, 3) := by decide +kernel
theorem dX11_pavement_56 : decode cX11_pavement 56 = .ok (.ireturn, 1) := by decide +kernel
theorem dX11_putOnTape_0 : decode cX11_putOnTape 0 = .ok (.bipush 24, 2) := by decide +kernel
theorem dX11_putOnTape_2 : decode cX11_putOnTape 2 = .ok (.istore_n 2, 1) := by decide +kernel
theorem dX11_putOnTape_3 : decode cX11_putOnTape 3 = .ok (.iload_n 2, 1) := by decide +kernel
theorem dX11_putOnTape_4 : decode cX11_putOnTape 4 = .ok (.ifCond .lt 39, 3) := by decide +kernel
theorem dX11_putOnTape_7 : decode cX11_putOnTape 7 = .ok (.aload_n 0, 1) := by decide +kernel
theorem dX11_putOnTape_8 : decode cX11_putOnTape 8 = .ok (.getfield 83, 3) := by decide +kernel
theorem dX11_putOnTape_11 : decode cX11_putOnTape 11 = .ok (.sipush 1600, 3) := by decide +kernel
theorem dX11_putOnTape_14 : decode cX11_putOnTape 14 = .ok (.if_icmp .ge 23, 3) := by decide +kernel
theorem dX11_putOnTape_17 : decode cX11_putOnTape 17 = .ok (.aload_n 0, 1) := by decide +kernel
theorem dX11_putOnTape_18 : decode cX11_putOnTape 18 = .ok (.getfield 19, 3) := by decide +kernel
theorem dX11_putOnTape_21 : decode cX11_putOnTape 21 = .ok (.aload_n 0, 1) := by decide +kernel
theorem dX11_putOnTape_22 : decode cX11_putOnTape 22 = .ok (.dup, 1) := by decide +kernel
theorem dX11_putOnTape_23 : decode cX11_putOnTape 23 = .ok (.getfield 83, 3) := by decide +kernel
theorem dX11_putOnTape_26 : decode cX11_putOnTape 26 = .ok (.dup_x1, 1) := by decide +kernel
theorem dX11_putOnTape_27 : decode cX11_putOnTape 27 = .ok (.iconst 1, 1) := by decide +kernel
theorem dX11_putOnTape_28 : decode cX11_putOnTape 28 = .ok (.iadd, 1) := by decide +kernel
theorem dX11_putOnTape_29 : decode cX11_putOnTape 29 = .ok (.putfield 83, 3) := by decide +kernel
theorem dX11_putOnTape_32 : decode cX11_putOnTape 32 = .ok (.iload_n 1, 1) := by decide +kernel
theorem dX11_putOnTape_33 : decode cX11_putOnTape 33 = .ok (.iload_n 2, 1) := by decide +kernel
theorem dX11_putOnTape_34 : decode cX11_putOnTape 34 = .ok (.ishr, 1) := by decide +kernel
theorem dX11_putOnTape_35 : decode cX11_putOnTape 35 = .ok (.i2b, 1) := by decide +kernel
theorem dX11_putOnTape_36 : decode cX11_putOnTape 36 = .ok (.bastore, 1) := by decide +kernel
theorem dX11_putOnTape_37 : decode cX11_putOnTape 37 = .ok (.iinc 2 (-8), 3) := by decide +kernel
theorem dX11_putOnTape_40 : decode cX11_putOnTape 40 = .ok (.goto (-37), 3) := by decide +kernel
theorem dX11_putOnTape_43 : decode cX11_putOnTape 43 = .ok (.return_, 1) := by decide +kernel
theorem dX11_rain_0 : decode cX11_rain 0 = .ok (.aload_n 0, 1) := by decide +kernel
theorem dX11_rain_1 : decode cX11_rain 1 = .ok (.getfield 65, 3) := by decide +kernel
theorem dX11_rain_4 : decode cX11_rain 4 = .ok (.getfield 246, 3) := by decide +kernel
theorem dX11_rain_7 : decode cX11_rain 7 = .ok (.bipush 9, 2) := by decide +kernel
theorem dX11_rain_9 : decode cX11_rain 9 = .ok (.dup2, 1) := by decide +kernel
theorem dX11_rain_10 : decode cX11_rain 10 = .ok (.iaload, 1) := by decide +kernel
theorem dX11_rain_11 : decode cX11_rain 11 = .ok (.iconst 1, 1) := by decide +kernel
theorem dX11_rain_12 : decode cX11_rain 12 = .ok (.ixor, 1) := by decide +kernel
theorem dX11_rain_13 : decode cX11_rain 13 = .ok (.iastore, 1) := by decide +kernel
theorem dX11_rain_14 : decode cX11_rain 14 = .ok (.aload_n 0, 1) := by decide +kernel
theorem dX11_rain_15 : decode cX11_rain 15 = .ok (.getfield 65, 3) := by decide +kernel
theorem dX11_rain_18 : decode cX11_rain 18 = .ok (.invokevirtual 249, 3) := by decide +kernel
theorem dX11_rain_21 : decode cX11_rain 21 = .ok (.aload_n 0, 1) := by decide +kernel
theorem dX11_rain_22 : decode cX11_rain 22 = .ok (.getfield 65, 3) := by decide +kernel
theorem dX11_rain_25 : decode cX11_rain 25 = .ok (.getfield 246, 3) := by decide +kernel
theorem dX11_rain_28 : decode cX11_rain 28 = .ok (.bipush 9, 2) := by decide +kernel
theorem dX11_rain_30 : decode cX11_rain 30 = .ok (.iaload, 1) := by decide +kernel
theorem dX11_rain_31 : decode cX11_rain 31 = .ok (.iconst 1, 1) := by decide +kernel
theorem dX11_rain_32 : decode cX11_rain 32 = .ok (.if_icmp .ne 7, 3) := by decide +kernel
theorem dX11_rain_35 : decode cX11_rain 35 = .ok (.iconst 1, 1) := by decide +kernel
theorem dX11_rain_36 : decode cX11_rain 36 = .ok (.goto 4, 3) := by decide +kernel
theorem dX11_rain_40 : decode cX11_rain 40 = .ok (.ireturn, 1) := by decide +kernel
theorem dX11_redo_0 : decode cX11_redo 0 = .ok (.aload_n 0, 1) := by decide +kernel
theorem dX11_redo_1 : decode cX11_redo 1 = .ok (.getfield 65, 3) := by decide +kernel
theorem dX11_redo_4 : decode cX11_redo 4 = .ok (.invokevirtual 268, 3) := by decide +kernel
theorem dX11_redo_7 : decode cX11_redo 7 = .ok (.ireturn, 1) := by decide +kernel
theorem dX11_sight_0 : decode cX11_sight 0 = .ok (.aload_n 0, 1) := by decide +kernel
theorem dX11_sight_1 : decode cX11_sight 1 = .ok (.getfield 10, 3) := by decide +kernel
theorem dX11_sight_4 : decode cX11_sight 4 = .ok (.iload_n 1, 1) := by decide +kernel
theorem dX11_sight_5 : decode cX11_sight 5 = .ok (.iload_n 2, 1) := by decide +kernel
theorem dX11_sight_6 : decode cX11_sight 6 = .ok (.iload_n 3, 1) := by decide +kernel
theorem dX11_sight_7 : decode cX11_sight 7 = .ok (.invokevirtual 234, 3) := by decide +kernel
theorem dX11_sight_10 : decode cX11_sight 10 = .ok (.ifCond .eq 16, 3) := by decide +kernel
theorem dX11_sight_26 : decode cX11_sight 26 = .ok (.iconst (-1), 1) := by decide +kernel
theorem dX11_sight_27 : decode cX11_sight 27 = .ok (.ireturn, 1) := by decide +kernel
theorem dX11_today_0 : decode cX11_today 0 = .ok (.aload_n 0, 1) := by decide +kernel
theorem dX11_today_1 : decode cX11_today 1 = .ok (.getfield 65, 3) := by decide +kernel
theorem dX11_today_4 : decode cX11_today 4 = .ok (.getfield 246, 3) := by decide +kernel
theorem dX11_today_7 : decode cX11_today 7 = .ok (.bipush 6, 2) := by decide +kernel
theorem dX11_today_9 : decode cX11_today 9 = .ok (.iaload, 1) := by decide +kernel
theorem dX11_today_10 : decode cX11_today 10 = .ok (.ireturn, 1) := by decide +kernel
theorem dX11_undo_0 : decode cX11_undo 0 = .ok (.aload_n 0, 1) := by decide +kernel
theorem dX11_undo_1 : decode cX11_undo 1 = .ok (.getfield 65, 3) := by decide +kernel
theorem dX11_undo_4 : decode cX11_undo 4 = .ok (.invokevirtual 265, 3) := by decide +kernel
theorem dX11_undo_7 : decode cX11_undo 7 = .ok (.ireturn, 1) := by decide +kernel
theorem dX11_untell_0 : decode cX11_untell 0 = .ok (.aload_n 0, 1) := by decide +kernel
theorem dX11_untell_1 : decode cX11_untell 1 = .ok (.getfield 72, 3) := by decide +kernel
theorem dX11_untell_4 : decode cX11_untell 4 = .ok (.iload_n 1, 1) := by decide +kernel
theorem dX11_untell_5 : decode cX11_untell 5 = .ok (.invokevirtual 275, 3) := by decide +kernel
theorem dX11_untell_8 : decode cX11_untell 8 = .ok (.ireturn, 1) := by decide +kernel
theorem dX11_wager_0 : decode cX11_wager 0 = .ok (.aload_n 0, 1) := by decide +kernel
theorem dX11_wager_1 : decode cX11_wager 1 = .ok (.iload_n 1, 1) := by decide +kernel
theorem dX11_wager_2 : decode cX11_wager 2 = .ok (.iload_n 2, 1) := by decide +kernel
theorem dX11_wager_3 : decode cX11_wager 3 = .ok (.iload_n 3, 1) := by decide +kernel
theorem dX11_wager_4 : decode cX11_wager 4 = .ok (.invokevirtual 143, 3) := by decide +kernel
theorem dX11_wager_7 : decode cX11_wager 7 = .ok (.ifCond .eq 14, 3) := by decide +kernel
theorem dX11_wager_21 : decode cX11_wager 21 = .ok (.iconst (-1), 1) := by decide +kernel
theorem dX11_wager_22 : decode cX11_wager 22 = .ok (.ireturn, 1) := by decide +kernel
theorem dX11_walk_0 : decode cX11_walk 0 = .ok (.aload_n 0, 1) := by decide +kernel
theorem dX11_walk_1 : decode cX11_walk 1 = .ok (.getfield 10, 3) := by decide +kernel
theorem dX11_walk_4 : decode cX11_walk 4 = .ok (.iload_n 1, 1) := by decide +kernel
theorem dX11_walk_5 : decode cX11_walk 5 = .ok (.iload_n 2, 1) := by decide +kernel
theorem dX11_walk_6 : decode cX11_walk 6 = .ok (.iload_n 3, 1) := by decide +kernel
theorem dX11_walk_7 : decode cX11_walk 7 = .ok (.invokevirtual 234, 3) := by decide +kernel
theorem dX11_walk_10 : decode cX11_walk 10 = .ok (.ifCond .eq 16, 3) := by decide +kernel
theorem dX11_walk_26 : decode cX11_walk 26 = .ok (.iconst (-1), 1) := by decide +kernel
theorem dX11_walk_27 : decode cX11_walk 27 = .ok (.ireturn, 1) := by decide +kernel
theorem dX11_walker_0 : decode cX11_walker 0 = .ok (.aload_n 0, 1) := by decide +kernel
theorem dX11_walker_1 : decode cX11_walker 1 = .ok (.getfield 65, 3) := by decide +kernel
theorem dX11_walker_4 : decode cX11_walker 4 = .ok (.getfield 246, 3) := by decide +kernel
theorem dX11_walker_7 : decode cX11_walker 7 = .ok (.iconst 0, 1) := by decide +kernel
theorem dX11_walker_8 : decode cX11_walker 8 = .ok (.iaload, 1) := by decide +kernel
theorem dX11_walker_9 : decode cX11_walker 9 = .ok (.iconst (-1), 1) := by decide +kernel
theorem dX11_walker_10 : decode cX11_walker 10 = .ok (.if_icmp .eq 12, 3) := by decide +kernel
theorem dX11_walker_22 : decode cX11_walker 22 = .ok (.iconst (-1), 1) := by decide +kernel
theorem dX11_walker_23 : decode cX11_walker 23 = .ok (.ireturn, 1) := by decide +kernel
theorem dX11_ways_0 : decode cX11_ways 0 = .ok (.aload_n 0, 1) := by decide +kernel
theorem dX11_ways_1 : decode cX11_ways 1 = .ok (.iload_n 1, 1) := by decide +kernel
theorem dX11_ways_2 : decode cX11_ways 2 = .ok (.iload_n 2, 1) := by decide +kernel
theorem dX11_ways_3 : decode cX11_ways 3 = .ok (.iload_n 3, 1) := by decide +kernel
theorem dX11_ways_4 : decode cX11_ways 4 = .ok (.invokevirtual 143, 3) := by decide +kernel
theorem dX11_ways_7 : decode cX11_ways 7 = .ok (.ifCond .eq 16, 3) := by decide +kernel
theorem dX11_ways_23 : decode cX11_ways 23 = .ok (.ldc2_w 165, 3) := by decide +kernel
theorem dX11_ways_26 : decode cX11_ways 26 = .ok (.lreturn, 1) := by decide +kernel
theorem dX1_bringFrom_0 : decode cX1_bringFrom 0 = .ok (.iload_n 1, 1) := by decide +kernel
theorem dX1_bringFrom_1 : decode cX1_bringFrom 1 = .ok (.ifCond .lt 19, 3) := by decide +kernel
theorem dX1_bringFrom_4 : decode cX1_bringFrom 4 = .ok (.iload_n 1, 1) := by decide +kernel
theorem dX1_bringFrom_5 : decode cX1_bringFrom 5 = .ok (.iconst 3, 1) := by decide +kernel
theorem dX1_bringFrom_6 : decode cX1_bringFrom 6 = .ok (.if_icmp .ge 14, 3) := by decide +kernel
theorem dX1_bringFrom_9 : decode cX1_bringFrom 9 = .ok (.aload_n 0, 1) := by decide +kernel
theorem dX1_bringFrom_10 : decode cX1_bringFrom 10 = .ok (.getfield 27, 3) := by decide +kernel
theorem dX1_bringFrom_13 : decode cX1_bringFrom 13 = .ok (.iload_n 1, 1) := by decide +kernel
theorem dX1_bringFrom_14 : decode cX1_bringFrom 14 = .ok (.ishr, 1) := by decide +kernel
theorem dX1_bringFrom_15 : decode cX1_bringFrom 15 = .ok (.iconst 1, 1) := by decide +kernel
theorem dX1_bringFrom_16 : decode cX1_bringFrom 16 = .ok (.iand, 1) := by decide +kernel
theorem dX1_bringFrom_17 : decode cX1_bringFrom 17 = .ok (.ifCond .ne 5, 3) := by decide +kernel
theorem dX1_bringFrom_20 : decode cX1_bringFrom 20 = .ok (.iconst 0, 1) := by decide +kernel
theorem dX1_bringFrom_21 : decode cX1_bringFrom 21 = .ok (.ireturn, 1) := by decide +kernel
theorem dX1_doAgain_0 : decode cX1_doAgain 0 = .ok (.aload_n 0, 1) := by decide +kernel
theorem dX1_doAgain_1 : decode cX1_doAgain 1 = .ok (.getfield 37, 3) := by decide +kernel
theorem dX1_doAgain_4 : decode cX1_doAgain 4 = .ok (.ifCond .gt 5, 3) := by decide +kernel
theorem dX1_doAgain_7 : decode cX1_doAgain 7 = .ok (.iconst 0, 1) := by decide +kernel
theorem dX1_doAgain_8 : decode cX1_doAgain 8 = .ok (.ireturn, 1) := by decide +kernel
theorem dX1_keepAct_0 : decode cX1_keepAct 0 = .ok (.aload_n 0, 1) := by decide +kernel
theorem dX1_keepAct_1 : decode cX1_keepAct 1 = .ok (.getfield 34, 3) := by decide +kernel
theorem dX1_keepAct_4 : decode cX1_keepAct 4 = .ok (.bipush 40, 2) := by decide +kernel
theorem dX1_keepAct_6 : decode cX1_keepAct 6 = .ok (.if_icmp .lt 26, 3) := by decide +kernel
theorem dX1_keepAct_32 : decode cX1_keepAct 32 = .ok (.aload_n 0, 1) := by decide +kernel
theorem dX1_keepAct_33 : decode cX1_keepAct 33 = .ok (.dup, 1) := by decide +kernel
theorem dX1_keepAct_34 : decode cX1_keepAct 34 = .ok (.getfield 34, 3) := by decide +kernel
theorem dX1_keepAct_37 : decode cX1_keepAct 37 = .ok (.iconst 1, 1) := by decide +kernel
theorem dX1_keepAct_38 : decode cX1_keepAct 38 = .ok (.iadd, 1) := by decide +kernel
theorem dX1_keepAct_39 : decode cX1_keepAct 39 = .ok (.putfield 34, 3) := by decide +kernel
theorem dX1_keepAct_42 : decode cX1_keepAct 42 = .ok (.aload_n 0, 1) := by decide +kernel
theorem dX1_keepAct_43 : decode cX1_keepAct 43 = .ok (.iconst 0, 1) := by decide +kernel
theorem dX1_keepAct_44 : decode cX1_keepAct 44 = .ok (.putfield 37, 3) := by decide +kernel
theorem dX1_keepAct_47 : decode cX1_keepAct 47 = .ok (.aload_n 0, 1) := by decide +kernel
theorem dX1_keepAct_48 : decode cX1_keepAct 48 = .ok (.getfield 11, 3) := by decide +kernel
theorem dX1_keepAct_51 : decode cX1_keepAct 51 = .ok (.iconst 0, 1) := by decide +kernel
theorem dX1_keepAct_52 : decode cX1_keepAct 52 = .ok (.aload_n 0, 1) := by decide +kernel
theorem dX1_keepAct_53 : decode cX1_keepAct 53 = .ok (.getfield 15, 3) := by decide +kernel
theorem dX1_keepAct_56 : decode cX1_keepAct 56 = .ok (.aload_n 0, 1) := by decide +kernel
theorem dX1_keepAct_57 : decode cX1_keepAct 57 = .ok (.getfield 34, 3) := by decide +kernel
theorem dX1_keepAct_60 : decode cX1_keepAct 60 = .ok (.bipush 10, 2) := by decide +kernel
theorem dX1_keepAct_62 : decode cX1_keepAct 62 = .ok (.imul, 1) := by decide +kernel
theorem dX1_keepAct_63 : decode cX1_keepAct 63 = .ok (.bipush 10, 2) := by decide +kernel
theorem dX1_keepAct_65 : decode cX1_keepAct 65 = .ok (.invokestatic 40, 3) := by decide +kernel
theorem dX1_keepAct_68 : decode cX1_keepAct 68 = .ok (.return_, 1) := by decide +kernel
theorem dX1_keepIn_0 : decode cX1_keepIn 0 = .ok (.iload_n 1, 1) := by decide +kernel
theorem dX1_keepIn_1 : decode cX1_keepIn 1 = .ok (.ifCond .lt 8, 3) := by decide +kernel
theorem dX1_keepIn_4 : decode cX1_keepIn 4 = .ok (.iload_n 1, 1) := by decide +kernel
theorem dX1_keepIn_5 : decode cX1_keepIn 5 = .ok (.iconst 3, 1) := by decide +kernel
theorem dX1_keepIn_6 : decode cX1_keepIn 6 = .ok (.if_icmp .lt 5, 3) := by decide +kernel
theorem dX1_keepIn_9 : decode cX1_keepIn 9 = .ok (.iconst 0, 1) := by decide +kernel
theorem dX1_keepIn_10 : decode cX1_keepIn 10 = .ok (.ireturn, 1) := by decide +kernel
theorem dX1_keepIn_11 : decode cX1_keepIn 11 = .ok (.aload_n 0, 1) := by decide +kernel
theorem dX1_keepIn_12 : decode cX1_keepIn 12 = .ok (.getfield 11, 3) := by decide +kernel
theorem dX1_keepIn_15 : decode cX1_keepIn 15 = .ok (.iconst 0, 1) := by decide +kernel
theorem dX1_keepIn_16 : decode cX1_keepIn 16 = .ok (.aload_n 0, 1) := by decide +kernel
theorem dX1_keepIn_17 : decode cX1_keepIn 17 = .ok (.getfield 18, 3) := by decide +kernel
theorem dX1_keepIn_20 : decode cX1_keepIn 20 = .ok (.iload_n 1, 1) := by decide +kernel
theorem dX1_keepIn_21 : decode cX1_keepIn 21 = .ok (.bipush 10, 2) := by decide +kernel
theorem dX1_keepIn_23 : decode cX1_keepIn 23 = .ok (.imul, 1) := by decide +kernel
theorem dX1_keepIn_24 : decode cX1_keepIn 24 = .ok (.bipush 10, 2) := by decide +kernel
theorem dX1_keepIn_26 : decode cX1_keepIn 26 = .ok (.invokestatic 40, 3) := by decide +kernel
theorem dX1_keepIn_29 : decode cX1_keepIn 29 = .ok (.aload_n 0, 1) := by decide +kernel
theorem dX1_keepIn_30 : decode cX1_keepIn 30 = .ok (.dup, 1) := by decide +kernel
theorem dX1_keepIn_31 : decode cX1_keepIn 31 = .ok (.getfield 27, 3) := by decide +kernel
theorem dX1_keepIn_34 : decode cX1_keepIn 34 = .ok (.iconst 1, 1) := by decide +kernel
theorem dX1_keepIn_35 : decode cX1_keepIn 35 = .ok (.iload_n 1, 1) := by decide +kernel
theorem dX1_keepIn_36 : decode cX1_keepIn 36 = .ok (.ishl, 1) := by decide +kernel
theorem dX1_keepIn_37 : decode cX1_keepIn 37 = .ok (.ior, 1) := by decide +kernel
theorem dX1_keepIn_38 : decode cX1_keepIn 38 = .ok (.putfield 27, 3) := by decide +kernel
theorem dX1_keepIn_41 : decode cX1_keepIn 41 = .ok (.iconst 1, 1) := by decide +kernel
theorem dX1_keepIn_42 : decode cX1_keepIn 42 = .ok (.ireturn, 1) := by decide +kernel
theorem dX1_takeBack_0 : decode cX1_takeBack 0 = .ok (.aload_n 0, 1) := by decide +kernel
theorem dX1_takeBack_1 : decode cX1_takeBack 1 = .ok (.getfield 34, 3) := by decide +kernel
theorem dX1_takeBack_4 : decode cX1_takeBack 4 = .ok (.ifCond .gt 5, 3) := by decide +kernel
theorem dX1_takeBack_7 : decode cX1_takeBack 7 = .ok (.iconst 0, 1) := by decide +kernel
theorem dX1_takeBack_8 : decode cX1_takeBack 8 = .ok (.ireturn, 1) := by decide +kernel
theorem dX6_allSlips_0 : decode cX6_allSlips 0 = .ok (.aload_n 0, 1) := by decide +kernel
theorem dX6_allSlips_1 : decode cX6_allSlips 1 = .ok (.getfield 30, 3) := by decide +kernel
theorem dX6_allSlips_4 : decode cX6_allSlips 4 = .ok (.iconst 0, 1) := by decide +kernel
theorem dX6_allSlips_5 : decode cX6_allSlips 5 = .ok (.iaload, 1) := by decide +kernel
theorem dX6_allSlips_6 : decode cX6_allSlips 6 = .ok (.aload_n 0, 1) := by decide +kernel
theorem dX6_allSlips_7 : decode cX6_allSlips 7 = .ok (.getfield 30, 3) := by decide +kernel
theorem dX6_allSlips_10 : decode cX6_allSlips 10 = .ok (.iconst 1, 1) := by decide +kernel
theorem dX6_allSlips_11 : decode cX6_allSlips 11 = .ok (.iaload, 1) := by decide +kernel
theorem dX6_allSlips_12 : decode cX6_allSlips 12 = .ok (.iadd, 1) := by decide +kernel
theorem dX6_allSlips_13 : decode cX6_allSlips 13 = .ok (.aload_n 0, 1) := by decide +kernel
theorem dX6_allSlips_14 : decode cX6_allSlips 14 = .ok (.getfield 30, 3) := by decide +kernel
theorem dX6_allSlips_17 : decode cX6_allSlips 17 = .ok (.iconst 2, 1) := by decide +kernel
theorem dX6_allSlips_18 : decode cX6_allSlips 18 = .ok (.iaload, 1) := by decide +kernel
theorem dX6_allSlips_19 : decode cX6_allSlips 19 = .ok (.iadd, 1) := by decide +kernel
theorem dX6_allSlips_20 : decode cX6_allSlips 20 = .ok (.ireturn, 1) := by decide +kernel
theorem dX7_read_0 : decode cX7_read 0 = .ok (.aload_n 0, 1) := by decide +kernel
theorem dX7_read_1 : decode cX7_read 1 = .ok (.aload_n 2, 1) := by decide +kernel
theorem dX7_read_2 : decode cX7_read 2 = .ok (.putfield 39, 3) := by decide +kernel
theorem dX7_read_5 : decode cX7_read 5 = .ok (.aload_n 0, 1) := by decide +kernel
theorem dX7_read_6 : decode cX7_read 6 = .ok (.getfield 39, 3) := by decide +kernel
theorem dX7_read_9 : decode cX7_read 9 = .ok (.invokevirtual 43, 3) := by decide +kernel
theorem dX7_read_12 : decode cX7_read 12 = .ok (.aload_n 0, 1) := by decide +kernel
theorem dX7_read_13 : decode cX7_read 13 = .ok (.iconst 0, 1) := by decide +kernel
theorem dX7_read_14 : decode cX7_read 14 = .ok (.putfield 48, 3) := by decide +kernel
theorem dX7_read_17 : decode cX7_read 17 = .ok (.aload_n 0, 1) := by decide +kernel
theorem dX7_read_18 : decode cX7_read 18 = .ok (.iconst 0, 1) := by decide +kernel
theorem dX7_read_19 : decode cX7_read 19 = .ok (.putfield 52, 3) := by decide +kernel
theorem dX7_read_22 : decode cX7_read 22 = .ok (.aload_n 0, 1) := by decide +kernel
theorem dX7_read_23 : decode cX7_read 23 = .ok (.iconst 0, 1) := by decide +kernel
theorem dX7_read_24 : decode cX7_read 24 = .ok (.putfield 55, 3) := by decide +kernel
theorem dX7_read_27 : decode cX7_read 27 = .ok (.aload_n 0, 1) := by decide +kernel
theorem dX7_read_28 : decode cX7_read 28 = .ok (.getfield 26, 3) := by decide +kernel
theorem dX7_read_31 : decode cX7_read 31 = .ok (.iload_n 1, 1) := by decide +kernel
theorem dX7_read_32 : decode cX7_read 32 = .ok (.invokevirtual 58, 3) := by decide +kernel
theorem dX7_read_35 : decode cX7_read 35 = .ok (.iconst 1, 1) := by decide +kernel
theorem dX7_read_36 : decode cX7_read 36 = .ok (.istore_n 3, 1) := by decide +kernel
theorem dX7_read_37 : decode cX7_read 37 = .ok (.iconst 0, 1) := by decide +kernel
theorem dX7_read_38 : decode cX7_read 38 = .ok (.istore 4, 2) := by decide +kernel
theorem dX7_read_40 : decode cX7_read 40 = .ok (.iload_n 3, 1) := by decide +kernel
theorem dX7_read_41 : decode cX7_read 41 = .ok (.ifCond .eq 154, 3) := by decide +kernel
theorem dX7_read_44 : decode cX7_read 44 = .ok (.iload 4, 2) := by decide +kernel
theorem dX7_read_46 : decode cX7_read 46 = .ok (.sipush 1600, 3) := by decide +kernel
theorem dX7_read_49 : decode cX7_read 49 = .ok (.if_icmp .ge 146, 3) := by decide +kernel
theorem dX7_read_52 : decode cX7_read 52 = .ok (.aload_n 0, 1) := by decide +kernel
theorem dX7_read_53 : decode cX7_read 53 = .ok (.getfield 26, 3) := by decide +kernel
theorem dX7_read_56 : decode cX7_read 56 = .ok (.getfield 62, 3) := by decide +kernel
theorem dX7_read_59 : decode cX7_read 59 = .ok (.sipush 203, 3) := by decide +kernel
theorem dX7_read_62 : decode cX7_read 62 = .ok (.if_icmp .eq 133, 3) := by decide +kernel
theorem dX7_read_195 : decode cX7_read 195 = .ok (.iload_n 3, 1) := by decide +kernel
theorem dX7_read_196 : decode cX7_read 196 = .ok (.ireturn, 1) := by decide +kernel
theorem dX8_takeFrom_0 : decode cX8_takeFrom 0 = .ok (.iload_n 1, 1) := by decide +kernel
theorem dX8_takeFrom_1 : decode cX8_takeFrom 1 = .ok (.ifCond .lt 21, 3) := by decide +kernel
theorem dX8_takeFrom_4 : decode cX8_takeFrom 4 = .ok (.iload_n 1, 1) := by decide +kernel
theorem dX8_takeFrom_5 : decode cX8_takeFrom 5 = .ok (.aload_n 0, 1) := by decide +kernel
theorem dX8_takeFrom_6 : decode cX8_takeFrom 6 = .ok (.getfield 27, 3) := by decide +kernel
theorem dX8_takeFrom_9 : decode cX8_takeFrom 9 = .ok (.if_icmp .ge 13, 3) := by decide +kernel
theorem dX8_takeFrom_22 : decode cX8_takeFrom 22 = .ok (.iconst 0, 1) := by decide +kernel
theorem dX8_takeFrom_23 : decode cX8_takeFrom 23 = .ok (.ireturn, 1) := by decide +kernel
theorem dX9_advance_0 : decode cX9_advance 0 = .ok (.aload_n 0, 1) := by decide +kernel
theorem dX9_advance_1 : decode cX9_advance 1 = .ok (.getfield 28, 3) := by decide +kernel
theorem dX9_advance_4 : decode cX9_advance 4 = .ok (.aload_n 0, 1) := by decide +kernel
theorem dX9_advance_5 : decode cX9_advance 5 = .ok (.getfield 25, 3) := by decide +kernel
theorem dX9_advance_8 : decode cX9_advance 8 = .ok (.if_icmp .ge 44, 3) := by decide +kernel
theorem dX9_advance_52 : decode cX9_advance 52 = .ok (.aload_n 0, 1) := by decide +kernel
theorem dX9_advance_53 : decode cX9_advance 53 = .ok (.aload_n 0, 1) := by decide +kernel
theorem dX9_advance_54 : decode cX9_advance 54 = .ok (.getfield 28, 3) := by decide +kernel
theorem dX9_advance_57 : decode cX9_advance 57 = .ok (.putfield 41, 3) := by decide +kernel
theorem dX9_advance_60 : decode cX9_advance 60 = .ok (.aload_n 0, 1) := by decide +kernel
theorem dX9_advance_61 : decode cX9_advance 61 = .ok (.getfield 28, 3) := by decide +kernel
theorem dX9_advance_64 : decode cX9_advance 64 = .ok (.aload_n 0, 1) := by decide +kernel
theorem dX9_advance_65 : decode cX9_advance 65 = .ok (.getfield 25, 3) := by decide +kernel
theorem dX9_advance_68 : decode cX9_advance 68 = .ok (.if_icmp .lt 13, 3) := by decide +kernel
theorem dX9_advance_71 : decode cX9_advance 71 = .ok (.aload_n 0, 1) := by decide +kernel
theorem dX9_advance_72 : decode cX9_advance 72 = .ok (.sipush 203, 3) := by decide +kernel
theorem dX9_advance_75 : decode cX9_advance 75 = .ok (.putfield 38, 3) := by decide +kernel
theorem dX9_advance_78 : decode cX9_advance 78 = .ok (.goto 81, 3) := by decide +kernel
theorem dX9_advance_159 : decode cX9_advance 159 = .ok (.iconst 1, 1) := by decide +kernel
theorem dX9_advance_160 : decode cX9_advance 160 = .ok (.ireturn, 1) := by decide +kernel
theorem dX9_open_0 : decode cX9_open 0 = .ok (.aload_n 0, 1) := by decide +kernel
theorem dX9_open_1 : decode cX9_open 1 = .ok (.iload_n 1, 1) := by decide +kernel
theorem dX9_open_2 : decode cX9_open 2 = .ok (.aload_n 0, 1) := by decide +kernel
theorem dX9_open_3 : decode cX9_open 3 = .ok (.getfield 15, 3) := by decide +kernel
theorem dX9_open_6 : decode cX9_open 6 = .ok (.arraylength, 1) := by decide +kernel
theorem dX9_open_7 : decode cX9_open 7 = .ok (.invokestatic 19, 3) := by decide +kernel
theorem dX9_open_10 : decode cX9_open 10 = .ok (.putfield 25, 3) := by decide +kernel
theorem dX9_open_13 : decode cX9_open 13 = .ok (.aload_n 0, 1) := by decide +kernel
theorem dX9_open_14 : decode cX9_open 14 = .ok (.iconst 0, 1) := by decide +kernel
theorem dX9_open_15 : decode cX9_open 15 = .ok (.putfield 28, 3) := by decide +kernel
theorem dX9_open_18 : decode cX9_open 18 = .ok (.aload_n 0, 1) := by decide +kernel
theorem dX9_open_19 : decode cX9_open 19 = .ok (.iconst 0, 1) := by decide +kernel
theorem dX9_open_20 : decode cX9_open 20 = .ok (.putfield 31, 3) := by decide +kernel
theorem dX9_open_23 : decode cX9_open 23 = .ok (.aload_n 0, 1) := by decide +kernel
theorem dX9_open_24 : decode cX9_open 24 = .ok (.iconst (-1), 1) := by decide +kernel
theorem dX9_open_25 : decode cX9_open 25 = .ok (.putfield 9, 3) := by decide +kernel
theorem dX9_open_28 : decode cX9_open 28 = .ok (.aload_n 0, 1) := by decide +kernel
theorem dX9_open_29 : decode cX9_open 29 = .ok (.invokevirtual 34, 3) := by decide +kernel
theorem dX9_open_32 : decode cX9_open 32 = .ok (.pop, 1) := by decide +kernel
theorem dX9_open_33 : decode cX9_open 33 = .ok (.return_, 1) := by decide +kernel
