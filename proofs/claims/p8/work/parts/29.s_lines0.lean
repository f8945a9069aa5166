theorem m351 : Cond.fieldLink RX3 18 "SlabWalk$Lines" "values" "[I" ∈ gd := gdc_1_14 11 rfl gw_fieldLink
theorem m352 : Cond.fieldLink RX3 66 "SlabWalk$Lines" "top" "I" ∈ gd := gdc_1_14 12 rfl gw_fieldLink
theorem m896 : Cond.static yX6_part ∈ gd := gdc_4_3 12 rfl gw_static
theorem m897 : Cond.code yX6_part cX6_part 2 (some .int) ∈ gd := gdc_4_3 13 rfl gw_code
theorem m939 : Cond.methodLink RX3 89 yX6_part ∈ gd := gdc_4_6 7 rfl gw_methodLink
theorem dX3_join_1 : decode cX3_join 1 = .ok (.lookupswitch 168 #[(42, 152), (43, 144), (45, 148), (47, 156), (60, 111), (61, 133), (62, 122), (144, 83), (145, 97)], 83) := dq_of (by decide +kernel)
def rbX3_join_0 : List (Nat × List Nat) := [(0, [26]), (84, [27]), (85, [154, 0, 7]), (88, [28]), (89, [153, 0, 7]), (92, [4]), (93, [167, 0, 4]), (96, [3]), (97, [172]), (98, [27]), (99, [153, 0, 11]), (102, [28]), (103, [153, 0, 7]), (106, [4]), (107, [167, 0, 4]), (110, [3]), (111, [172]), (112, [27]), (113, [28]), (114, [162, 0, 7]), (117, [4]), (118, [167, 0, 4]), (121, [3]), (122, [172])]
theorem rcX3_join_0 : dgo (lb cX3_join) 0 rbX3_join_0 = true := by decide +kernel
theorem dX3_join_0 : decode cX3_join 0 = .ok (.iload_n 0, 1) := dk_26 (dw rcX3_join_0 0 rfl)
theorem dX3_join_84 : decode cX3_join 84 = .ok (.iload_n 1, 1) := dk_27 (dw rcX3_join_0 1 rfl)
theorem dX3_join_85 : decode cX3_join 85 = .ok (.ifCond .ne 7, 3) := dk_154 (dw rcX3_join_0 2 rfl) rfl
theorem dX3_join_88 : decode cX3_join 88 = .ok (.iload_n 2, 1) := dk_28 (dw rcX3_join_0 3 rfl)
theorem dX3_join_89 : decode cX3_join 89 = .ok (.ifCond .eq 7, 3) := dk_153 (dw rcX3_join_0 4 rfl) rfl
theorem dX3_join_92 : decode cX3_join 92 = .ok (.iconst 1, 1) := dk_4 (dw rcX3_join_0 5 rfl)
theorem dX3_join_93 : decode cX3_join 93 = .ok (.goto 4, 3) := dk_167 (dw rcX3_join_0 6 rfl) rfl
theorem dX3_join_96 : decode cX3_join 96 = .ok (.iconst 0, 1) := dk_3 (dw rcX3_join_0 7 rfl)
theorem dX3_join_97 : decode cX3_join 97 = .ok (.ireturn, 1) := dk_172 (dw rcX3_join_0 8 rfl)
theorem dX3_join_98 : decode cX3_join 98 = .ok (.iload_n 1, 1) := dk_27 (dw rcX3_join_0 9 rfl)
theorem dX3_join_99 : decode cX3_join 99 = .ok (.ifCond .eq 11, 3) := dk_153 (dw rcX3_join_0 10 rfl) rfl
theorem dX3_join_102 : decode cX3_join 102 = .ok (.iload_n 2, 1) := dk_28 (dw rcX3_join_0 11 rfl)
theorem dX3_join_103 : decode cX3_join 103 = .ok (.ifCond .eq 7, 3) := dk_153 (dw rcX3_join_0 12 rfl) rfl
theorem dX3_join_106 : decode cX3_join 106 = .ok (.iconst 1, 1) := dk_4 (dw rcX3_join_0 13 rfl)
theorem dX3_join_107 : decode cX3_join 107 = .ok (.goto 4, 3) := dk_167 (dw rcX3_join_0 14 rfl) rfl
theorem dX3_join_110 : decode cX3_join 110 = .ok (.iconst 0, 1) := dk_3 (dw rcX3_join_0 15 rfl)
theorem dX3_join_111 : decode cX3_join 111 = .ok (.ireturn, 1) := dk_172 (dw rcX3_join_0 16 rfl)
theorem dX3_join_112 : decode cX3_join 112 = .ok (.iload_n 1, 1) := dk_27 (dw rcX3_join_0 17 rfl)
theorem dX3_join_113 : decode cX3_join 113 = .ok (.iload_n 2, 1) := dk_28 (dw rcX3_join_0 18 rfl)
theorem dX3_join_114 : decode cX3_join 114 = .ok (.if_icmp .ge 7, 3) := dk_162 (dw rcX3_join_0 19 rfl) rfl
theorem dX3_join_117 : decode cX3_join 117 = .ok (.iconst 1, 1) := dk_4 (dw rcX3_join_0 20 rfl)
theorem dX3_join_118 : decode cX3_join 118 = .ok (.goto 4, 3) := dk_167 (dw rcX3_join_0 21 rfl) rfl
theorem dX3_join_121 : decode cX3_join 121 = .ok (.iconst 0, 1) := dk_3 (dw rcX3_join_0 22 rfl)
theorem dX3_join_122 : decode cX3_join 122 = .ok (.ireturn, 1) := dk_172 (dw rcX3_join_0 23 rfl)
def rbX3_join_123 : List (Nat × List Nat) := [(123, [27]), (124, [28]), (125, [164, 0, 7]), (128, [4]), (129, [167, 0, 4]), (132, [3]), (133, [172]), (134, [27]), (135, [28]), (136, [160, 0, 7]), (139, [4]), (140, [167, 0, 4]), (143, [3]), (144, [172]), (145, [27]), (146, [28]), (147, [96]), (148, [172]), (149, [27]), (150, [28]), (151, [100]), (152, [172]), (153, [27]), (154, [28])]
theorem rcX3_join_123 : dgo (lb cX3_join) 0 rbX3_join_123 = true := by decide +kernel
theorem dX3_join_123 : decode cX3_join 123 = .ok (.iload_n 1, 1) := dk_27 (dw rcX3_join_123 0 rfl)
theorem dX3_join_124 : decode cX3_join 124 = .ok (.iload_n 2, 1) := dk_28 (dw rcX3_join_123 1 rfl)
theorem dX3_join_125 : decode cX3_join 125 = .ok (.if_icmp .le 7, 3) := dk_164 (dw rcX3_join_123 2 rfl) rfl
theorem dX3_join_128 : decode cX3_join 128 = .ok (.iconst 1, 1) := dk_4 (dw rcX3_join_123 3 rfl)
theorem dX3_join_129 : decode cX3_join 129 = .ok (.goto 4, 3) := dk_167 (dw rcX3_join_123 4 rfl) rfl
theorem dX3_join_132 : decode cX3_join 132 = .ok (.iconst 0, 1) := dk_3 (dw rcX3_join_123 5 rfl)
theorem dX3_join_133 : decode cX3_join 133 = .ok (.ireturn, 1) := dk_172 (dw rcX3_join_123 6 rfl)
theorem dX3_join_134 : decode cX3_join 134 = .ok (.iload_n 1, 1) := dk_27 (dw rcX3_join_123 7 rfl)
theorem dX3_join_135 : decode cX3_join 135 = .ok (.iload_n 2, 1) := dk_28 (dw rcX3_join_123 8 rfl)
theorem dX3_join_136 : decode cX3_join 136 = .ok (.if_icmp .ne 7, 3) := dk_160 (dw rcX3_join_123 9 rfl) rfl
theorem dX3_join_139 : decode cX3_join 139 = .ok (.iconst 1, 1) := dk_4 (dw rcX3_join_123 10 rfl)
theorem dX3_join_140 : decode cX3_join 140 = .ok (.goto 4, 3) := dk_167 (dw rcX3_join_123 11 rfl) rfl
theorem dX3_join_143 : decode cX3_join 143 = .ok (.iconst 0, 1) := dk_3 (dw rcX3_join_123 12 rfl)
theorem dX3_join_144 : decode cX3_join 144 = .ok (.ireturn, 1) := dk_172 (dw rcX3_join_123 13 rfl)
theorem dX3_join_145 : decode cX3_join 145 = .ok (.iload_n 1, 1) := dk_27 (dw rcX3_join_123 14 rfl)
theorem dX3_join_146 : decode cX3_join 146 = .ok (.iload_n 2, 1) := dk_28 (dw rcX3_join_123 15 rfl)
theorem dX3_join_147 : decode cX3_join 147 = .ok (.iadd, 1) := dk_96 (dw rcX3_join_123 16 rfl)
theorem dX3_join_148 : decode cX3_join 148 = .ok (.ireturn, 1) := dk_172 (dw rcX3_join_123 17 rfl)
theorem dX3_join_149 : decode cX3_join 149 = .ok (.iload_n 1, 1) := dk_27 (dw rcX3_join_123 18 rfl)
theorem dX3_join_150 : decode cX3_join 150 = .ok (.iload_n 2, 1) := dk_28 (dw rcX3_join_123 19 rfl)
theorem dX3_join_151 : decode cX3_join 151 = .ok (.isub, 1) := dk_100 (dw rcX3_join_123 20 rfl)
theorem dX3_join_152 : decode cX3_join 152 = .ok (.ireturn, 1) := dk_172 (dw rcX3_join_123 21 rfl)
theorem dX3_join_153 : decode cX3_join 153 = .ok (.iload_n 1, 1) := dk_27 (dw rcX3_join_123 22 rfl)
theorem dX3_join_154 : decode cX3_join 154 = .ok (.iload_n 2, 1) := dk_28 (dw rcX3_join_123 23 rfl)
def rbX3_join_155 : List (Nat × List Nat) := [(155, [104]), (156, [172]), (157, [28]), (158, [154, 0, 7]), (161, [3]), (162, [167, 0, 6]), (165, [27]), (166, [28]), (167, [108]), (168, [172]), (169, [28]), (170, [154, 0, 7]), (173, [3]), (174, [167, 0, 6]), (177, [27]), (178, [28]), (179, [112]), (180, [172])]
theorem rcX3_join_155 : dgo (lb cX3_join) 0 rbX3_join_155 = true := by decide +kernel
theorem dX3_join_155 : decode cX3_join 155 = .ok (.imul, 1) := dk_104 (dw rcX3_join_155 0 rfl)
theorem dX3_join_156 : decode cX3_join 156 = .ok (.ireturn, 1) := dk_172 (dw rcX3_join_155 1 rfl)
theorem dX3_join_157 : decode cX3_join 157 = .ok (.iload_n 2, 1) := dk_28 (dw rcX3_join_155 2 rfl)
theorem dX3_join_158 : decode cX3_join 158 = .ok (.ifCond .ne 7, 3) := dk_154 (dw rcX3_join_155 3 rfl) rfl
theorem dX3_join_161 : decode cX3_join 161 = .ok (.iconst 0, 1) := dk_3 (dw rcX3_join_155 4 rfl)
theorem dX3_join_162 : decode cX3_join 162 = .ok (.goto 6, 3) := dk_167 (dw rcX3_join_155 5 rfl) rfl
theorem dX3_join_165 : decode cX3_join 165 = .ok (.iload_n 1, 1) := dk_27 (dw rcX3_join_155 6 rfl)
theorem dX3_join_166 : decode cX3_join 166 = .ok (.iload_n 2, 1) := dk_28 (dw rcX3_join_155 7 rfl)
theorem dX3_join_167 : decode cX3_join 167 = .ok (.idiv, 1) := dk_108 (dw rcX3_join_155 8 rfl)
theorem dX3_join_168 : decode cX3_join 168 = .ok (.ireturn, 1) := dk_172 (dw rcX3_join_155 9 rfl)
theorem dX3_join_169 : decode cX3_join 169 = .ok (.iload_n 2, 1) := dk_28 (dw rcX3_join_155 10 rfl)
theorem dX3_join_170 : decode cX3_join 170 = .ok (.ifCond .ne 7, 3) := dk_154 (dw rcX3_join_155 11 rfl) rfl
theorem dX3_join_173 : decode cX3_join 173 = .ok (.iconst 0, 1) := dk_3 (dw rcX3_join_155 12 rfl)
theorem dX3_join_174 : decode cX3_join 174 = .ok (.goto 6, 3) := dk_167 (dw rcX3_join_155 13 rfl) rfl
theorem dX3_join_177 : decode cX3_join 177 = .ok (.iload_n 1, 1) := dk_27 (dw rcX3_join_155 14 rfl)
theorem dX3_join_178 : decode cX3_join 178 = .ok (.iload_n 2, 1) := dk_28 (dw rcX3_join_155 15 rfl)
theorem dX3_join_179 : decode cX3_join 179 = .ok (.irem, 1) := dk_112 (dw rcX3_join_155 16 rfl)
theorem dX3_join_180 : decode cX3_join 180 = .ok (.ireturn, 1) := dk_172 (dw rcX3_join_155 17 rfl)
theorem dX3_ownOf_1 : decode cX3_ownOf 1 = .ok (.tableswitch 51 147 150 #[45, 33, 39, 31], 31) := dq_of (by decide +kernel)
def rbX3_ownOf_0 : List (Nat × List Nat) := [(0, [26]), (32, [28]), (33, [172]), (34, [27]), (35, [4]), (36, [184, 0, 89]), (39, [172]), (40, [27]), (41, [5]), (42, [184, 0, 89]), (45, [172]), (46, [27]), (47, [6]), (48, [184, 0, 89]), (51, [172]), (52, [27]), (53, [26]), (54, [17, 0, 139]), (57, [100]), (58, [122]), (59, [4]), (60, [126]), (61, [172])]
theorem rcX3_ownOf_0 : dgo (lb cX3_ownOf) 0 rbX3_ownOf_0 = true := by decide +kernel
theorem dX3_ownOf_0 : decode cX3_ownOf 0 = .ok (.iload_n 0, 1) := dk_26 (dw rcX3_ownOf_0 0 rfl)
theorem dX3_ownOf_32 : decode cX3_ownOf 32 = .ok (.iload_n 2, 1) := dk_28 (dw rcX3_ownOf_0 1 rfl)
theorem dX3_ownOf_33 : decode cX3_ownOf 33 = .ok (.ireturn, 1) := dk_172 (dw rcX3_ownOf_0 2 rfl)
theorem dX3_ownOf_34 : decode cX3_ownOf 34 = .ok (.iload_n 1, 1) := dk_27 (dw rcX3_ownOf_0 3 rfl)
theorem dX3_ownOf_35 : decode cX3_ownOf 35 = .ok (.iconst 1, 1) := dk_4 (dw rcX3_ownOf_0 4 rfl)
theorem dX3_ownOf_36 : decode cX3_ownOf 36 = .ok (.invokestatic 89, 3) := dk_184 (dw rcX3_ownOf_0 5 rfl) rfl
theorem dX3_ownOf_39 : decode cX3_ownOf 39 = .ok (.ireturn, 1) := dk_172 (dw rcX3_ownOf_0 6 rfl)
theorem dX3_ownOf_40 : decode cX3_ownOf 40 = .ok (.iload_n 1, 1) := dk_27 (dw rcX3_ownOf_0 7 rfl)
theorem dX3_ownOf_41 : decode cX3_ownOf 41 = .ok (.iconst 2, 1) := dk_5 (dw rcX3_ownOf_0 8 rfl)
theorem dX3_ownOf_42 : decode cX3_ownOf 42 = .ok (.invokestatic 89, 3) := dk_184 (dw rcX3_ownOf_0 9 rfl) rfl
theorem dX3_ownOf_45 : decode cX3_ownOf 45 = .ok (.ireturn, 1) := dk_172 (dw rcX3_ownOf_0 10 rfl)
theorem dX3_ownOf_46 : decode cX3_ownOf 46 = .ok (.iload_n 1, 1) := dk_27 (dw rcX3_ownOf_0 11 rfl)
theorem dX3_ownOf_47 : decode cX3_ownOf 47 = .ok (.iconst 3, 1) := dk_6 (dw rcX3_ownOf_0 12 rfl)
theorem dX3_ownOf_48 : decode cX3_ownOf 48 = .ok (.invokestatic 89, 3) := dk_184 (dw rcX3_ownOf_0 13 rfl) rfl
theorem dX3_ownOf_51 : decode cX3_ownOf 51 = .ok (.ireturn, 1) := dk_172 (dw rcX3_ownOf_0 14 rfl)
theorem dX3_ownOf_52 : decode cX3_ownOf 52 = .ok (.iload_n 1, 1) := dk_27 (dw rcX3_ownOf_0 15 rfl)
theorem dX3_ownOf_53 : decode cX3_ownOf 53 = .ok (.iload_n 0, 1) := dk_26 (dw rcX3_ownOf_0 16 rfl)
theorem dX3_ownOf_54 : decode cX3_ownOf 54 = .ok (.sipush 139, 3) := dk_17 (dw rcX3_ownOf_0 17 rfl) rfl
theorem dX3_ownOf_57 : decode cX3_ownOf 57 = .ok (.isub, 1) := dk_100 (dw rcX3_ownOf_0 18 rfl)
theorem dX3_ownOf_58 : decode cX3_ownOf 58 = .ok (.ishr, 1) := dk_122 (dw rcX3_ownOf_0 19 rfl)
theorem dX3_ownOf_59 : decode cX3_ownOf 59 = .ok (.iconst 1, 1) := dk_4 (dw rcX3_ownOf_0 20 rfl)
theorem dX3_ownOf_60 : decode cX3_ownOf 60 = .ok (.iand, 1) := dk_126 (dw rcX3_ownOf_0 21 rfl)
theorem dX3_ownOf_61 : decode cX3_ownOf 61 = .ok (.ireturn, 1) := dk_172 (dw rcX3_ownOf_0 22 rfl)
def rbX3_pop_0 : List (Nat × List Nat) := [(0, [42]), (1, [180, 0, 66]), (4, [158, 0, 22]), (7, [42]), (8, [180, 0, 18]), (11, [42]), (12, [89]), (13, [180, 0, 66]), (16, [4]), (17, [100]), (18, [90]), (19, [181, 0, 66]), (22, [46]), (23, [167, 0, 4]), (26, [3]), (27, [172])]
theorem rcX3_pop_0 : dgo (lb cX3_pop) 0 rbX3_pop_0 = true := by decide +kernel
theorem dX3_pop_0 : decode cX3_pop 0 = .ok (.aload_n 0, 1) := dk_42 (dw rcX3_pop_0 0 rfl)
theorem dX3_pop_1 : decode cX3_pop 1 = .ok (.getfield 66, 3) := dk_180 (dw rcX3_pop_0 1 rfl) rfl
theorem dX3_pop_4 : decode cX3_pop 4 = .ok (.ifCond .le 22, 3) := dk_158 (dw rcX3_pop_0 2 rfl) rfl
theorem dX3_pop_7 : decode cX3_pop 7 = .ok (.aload_n 0, 1) := dk_42 (dw rcX3_pop_0 3 rfl)
theorem dX3_pop_8 : decode cX3_pop 8 = .ok (.getfield 18, 3) := dk_180 (dw rcX3_pop_0 4 rfl) rfl
theorem dX3_pop_11 : decode cX3_pop 11 = .ok (.aload_n 0, 1) := dk_42 (dw rcX3_pop_0 5 rfl)
theorem dX3_pop_12 : decode cX3_pop 12 = .ok (.dup, 1) := dk_89 (dw rcX3_pop_0 6 rfl)
theorem dX3_pop_13 : decode cX3_pop 13 = .ok (.getfield 66, 3) := dk_180 (dw rcX3_pop_0 7 rfl) rfl
theorem dX3_pop_16 : decode cX3_pop 16 = .ok (.iconst 1, 1) := dk_4 (dw rcX3_pop_0 8 rfl)
theorem dX3_pop_17 : decode cX3_pop 17 = .ok (.isub, 1) := dk_100 (dw rcX3_pop_0 9 rfl)
theorem dX3_pop_18 : decode cX3_pop 18 = .ok (.dup_x1, 1) := dk_90 (dw rcX3_pop_0 10 rfl)
theorem dX3_pop_19 : decode cX3_pop 19 = .ok (.putfield 66, 3) := dk_181 (dw rcX3_pop_0 11 rfl) rfl
theorem dX3_pop_22 : decode cX3_pop 22 = .ok (.iaload, 1) := dk_46 (dw rcX3_pop_0 12 rfl)
theorem dX3_pop_23 : decode cX3_pop 23 = .ok (.goto 4, 3) := dk_167 (dw rcX3_pop_0 13 rfl) rfl
theorem dX3_pop_26 : decode cX3_pop 26 = .ok (.iconst 0, 1) := dk_3 (dw rcX3_pop_0 14 rfl)
theorem dX3_pop_27 : decode cX3_pop 27 = .ok (.ireturn, 1) := dk_172 (dw rcX3_pop_0 15 rfl)
def rbX3_push_0 : List (Nat × List Nat) := [(0, [42]), (1, [180, 0, 66]), (4, [16, 100]), (6, [162, 0, 20]), (9, [42]), (10, [180, 0, 18]), (13, [42]), (14, [89]), (15, [180, 0, 66]), (18, [90]), (19, [4]), (20, [96]), (21, [181, 0, 66]), (24, [27]), (25, [79]), (26, [177])]
theorem rcX3_push_0 : dgo (lb cX3_push) 0 rbX3_push_0 = true := by decide +kernel
theorem dX3_push_0 : decode cX3_push 0 = .ok (.aload_n 0, 1) := dk_42 (dw rcX3_push_0 0 rfl)
theorem dX3_push_1 : decode cX3_push 1 = .ok (.getfield 66, 3) := dk_180 (dw rcX3_push_0 1 rfl) rfl
theorem dX3_push_4 : decode cX3_push 4 = .ok (.bipush 100, 2) := dk_16 (dw rcX3_push_0 2 rfl) rfl
theorem dX3_push_6 : decode cX3_push 6 = .ok (.if_icmp .ge 20, 3) := dk_162 (dw rcX3_push_0 3 rfl) rfl
theorem dX3_push_9 : decode cX3_push 9 = .ok (.aload_n 0, 1) := dk_42 (dw rcX3_push_0 4 rfl)
theorem dX3_push_10 : decode cX3_push 10 = .ok (.getfield 18, 3) := dk_180 (dw rcX3_push_0 5 rfl) rfl
theorem dX3_push_13 : decode cX3_push 13 = .ok (.aload_n 0, 1) := dk_42 (dw rcX3_push_0 6 rfl)
theorem dX3_push_14 : decode cX3_push 14 = .ok (.dup, 1) := dk_89 (dw rcX3_push_0 7 rfl)
theorem dX3_push_15 : decode cX3_push 15 = .ok (.getfield 66, 3) := dk_180 (dw rcX3_push_0 8 rfl) rfl
theorem dX3_push_18 : decode cX3_push 18 = .ok (.dup_x1, 1) := dk_90 (dw rcX3_push_0 9 rfl)
theorem dX3_push_19 : decode cX3_push 19 = .ok (.iconst 1, 1) := dk_4 (dw rcX3_push_0 10 rfl)
theorem dX3_push_20 : decode cX3_push 20 = .ok (.iadd, 1) := dk_96 (dw rcX3_push_0 11 rfl)
theorem dX3_push_21 : decode cX3_push 21 = .ok (.putfield 66, 3) := dk_181 (dw rcX3_push_0 12 rfl) rfl
theorem dX3_push_24 : decode cX3_push 24 = .ok (.iload_n 1, 1) := dk_27 (dw rcX3_push_0 13 rfl)
theorem dX3_push_25 : decode cX3_push 25 = .ok (.iastore, 1) := dk_79 (dw rcX3_push_0 14 rfl)
theorem dX3_push_26 : decode cX3_push 26 = .ok (.return_, 1) := dk_177 (dw rcX3_push_0 15 rfl)
set_option maxHeartbeats 4000000 in
set_option maxRecDepth 100000 in
theorem k_lPush (l : Launch) (D : va_G) (k : KT) (A : Nat → Prop) (a : Nat → Nat) (z : SK) (G : GS) (p0 : Int32)  : Met l yX3_push (WS yX3_push cX3_push 2 none) ({ frames := 0, cells := 0, slots := 0, locals := 0 }) (va_Pc [.ref (a 6), .int p0] (cW D k A a z G)) (va_Qv (fun (G1 : GS) => P_lPush p0 G G1) (fun (G1 : GS) t => Wd D k A a G1 t.heap) A) 0 0 A := by
  refine Met.ofW (cc := cX3_push) (maxL := 2) (ret := none) (by decide) rfl ?_
  intro p e s m args below meth c s₁ B hml hv
  obtain ⟨rfl, hW, hB_G, hK, hZ⟩ := hv
  have hx := B.exec
  have hb := B.bytes
  have hr := B.returns
  have hts := atoms_spec (ws := WS yX3_push cX3_push 2 none) B.pre
  have hgd : ∀ w ∈ gd, w ∈ WS yX3_push cX3_push 2 none := fun w h => List.mem_cons_of_mem _ h
  have hg : ∀ w ∈ gd, w.before _ s = true := fun w h => hts w (hgd w h)
  have hown : s.vm.findClass RX3 = some m.cls := findClass_of_methodNamed B.named
  have hS : va_S A s.heap s.heap [] := va_S.rf
  have hF : Fr [39] [(6, 3)] G G := Fr.rf
  have hl := lv_entry ([.ref (a 6), .int p0]) (n := 2) (Nat.le_of_ble_eq_true rfl)
  rw [lg_entry_eq]
  generalize (lg_sl ([.ref (a 6), .int p0]) ++ List.replicate (2 - (lg_sl ([.ref (a 6), .int p0])).length) Slot.unset).toArray = ls at hl ⊢
  have hl : lv_has ls 2 [(0, .ref (a 6)), (1, .int p0)] := hl
  refine lv_aload_n hx hb dX3_push_0 rfl (lv_at hl 0 rfl) ?_
  have b_1 : 0 ≤ (G.1 6 3).toInt ∧ (G.1 6 3).toInt ≤ 100 := bd_6_3 hB_G
  refine S_getI (v := (G.1 6 3)) (C := RX3) (T := TX3) (N := 5) hx hb hg iX3 hown hK hW kd_6 rfl 3 (lt_b rfl) (hg (Cond.fieldLink RX3 66 "SlabWalk$Lines" "top" "I") m352) (fun _ h9 => h9) rfl rfl dX3_push_1 ?_
  refine lv_bipush (v := 100) hx hb dX3_push_4 (by decide) ?_
  refine lv_icmp_ge (tgt := 26) hx hb dX3_push_6 rfl (fun c_2 => ?_) (fun c_2 => ?_)
  · have c_2 : 100 ≤ (G.1 6 3).toInt := xI_le rfl rfl c_2
    exact W.vret hx hb hr (fun t ht _ => ⟨⟨G, rfl, (P_lPush_mk ⟨hB_G, hF, (Or.inl ⟨c_2, rfl⟩)⟩), wd_t ht hW⟩, hS.F ht⟩) hS.2.2 dX3_push_26
  · have c_2 : (G.1 6 3).toInt < 100 := xI_nle rfl rfl c_2
    refine lv_aload_n hx hb dX3_push_9 rfl (lv_at hl 0 rfl) ?_
    refine S_getR (n := 39) (C := RX3) (T := TX3) (N := 5) hx hb hg iX3 hown hK hW kd_6 rfl 2 (lt_b rfl) (hg (Cond.fieldLink RX3 18 "SlabWalk$Lines" "values" "[I") m351) (fun _ h9 => h9) rfl dX3_push_10 ?_
    refine lv_aload_n hx hb dX3_push_13 rfl (lv_at hl 0 rfl) ?_
    refine lv_dup hx hb dX3_push_14 rfl ?_
    refine S_getI (v := (G.1 6 3)) (C := RX3) (T := TX3) (N := 5) hx hb hg iX3 hown hK hW kd_6 rfl 3 (lt_b rfl) (hg (Cond.fieldLink RX3 66 "SlabWalk$Lines" "top" "I") m352) (fun _ h9 => h9) rfl rfl dX3_push_15 ?_
    refine lv_dup_x1 hx hb dX3_push_18 rfl rfl ?_
    refine ic_1 hx hb dX3_push_19 ?_
    refine lv_iadd hx hb dX3_push_20 ?_
    refine lv_topi (fun y_3 ey_3 => ?_)
    have ty_3 : y_3.toInt = (G.1 6 3).toInt + 1 := xI_add rfl rfl ey_3 (by omega) (by omega)
    refine S_putI (ty := .int) (C := RX3) (T := TX3) (N := 5) hx hb hg iX3 tyX3 tyX3_ok nmX3 hown hK hW hS kd_6 rfl 3 (lt_b rfl) (hg (Cond.fieldLink RX3 66 "SlabWalk$Lines" "top" "I") m352) (fun _ h9 => h9) rfl (by decide +kernel) rfl rfl rfl dX3_push_21 (fun G_4 H locs eG_4 hW hS => ?_)
    have hB_G_4 : Bd G_4 := hB_G.put (V := y_3.toInt) (lo := 0) (hi := 100) eG_4 rfl rfl rfl (by omega) (by omega) (hB_G.2.put eG_4 rfl)
    have hF := hF.put eG_4 (Or.inr (by decide))
    refine lv_iload_n hx hb dX3_push_24 rfl (lv_at hl 1 rfl) ?_
    refine S_iast hx hb hK hW hS kd_39 (vin (by omega) (by omega)) dX3_push_25 (fun G_5 H locs eG_5 hW hS => ?_)
    have hB_G_5 : Bd G_5 := hB_G_4.put (lo := (-2147483648)) (hi := 2147483647) eG_5 rfl rfl rfl (tI_rng _).1 (tI_rng _).2 (hB_G_4.2.put eG_5 rfl)
    have hF := hF.put eG_5 (Or.inl (by decide))
    exact W.vret hx hb hr (fun t ht _ => ⟨⟨G_5, rfl, (P_lPush_mk ⟨hB_G_5, hF, (Or.inr ⟨c_2, ⟨y_3, ty_3, ⟨(Fr.put (rs := [39]) (fs := [(6, 3)]) (Fr.put (rs := [39]) (fs := [(6, 3)]) Fr.rf eG_4 (Or.inr (by decide))) eG_5 (Or.inl (by decide))), ((gp_ne eG_5 (fun q => absurd q.1 (Nat.ne_of_beq_eq_false rfl))).trans (gp_eq eG_4)), (rw_ast eG_5).trans (congrArg (fun q => upd q ((G.1 6 3).toNatClampNeg) p0) (rw_put eG_4 (by decide)))⟩⟩⟩)⟩), wd_t ht hW⟩, hS.F ht⟩) hS.2.2 dX3_push_26

set_option maxHeartbeats 4000000 in
set_option maxRecDepth 100000 in
theorem k_lPop (l : Launch) (D : va_G) (k : KT) (A : Nat → Prop) (a : Nat → Nat) (z : SK) (G : GS)   : Met l yX3_pop (WS yX3_pop cX3_pop 1 (some .int)) ({ frames := 0, cells := 0, slots := 0, locals := 0 }) (va_Pc [.ref (a 6)] (cW D k A a z G)) (va_Qi (fun (r : Int32) (G1 : GS) => P_lPop G r G1) (fun (G1 : GS) t => Wd D k A a G1 t.heap) A) 0 0 A := by
  refine Met.ofW (cc := cX3_pop) (maxL := 1) (ret := (some .int)) (by decide) rfl ?_
  intro p e s m args below meth c s₁ B hml hv
  obtain ⟨rfl, hW, hB_G, hK, hZ⟩ := hv
  have hx := B.exec
  have hb := B.bytes
  have hr := B.returns
  have hts := atoms_spec (ws := WS yX3_pop cX3_pop 1 (some .int)) B.pre
  have hgd : ∀ w ∈ gd, w ∈ WS yX3_pop cX3_pop 1 (some .int) := fun w h => List.mem_cons_of_mem _ h
  have hg : ∀ w ∈ gd, w.before _ s = true := fun w h => hts w (hgd w h)
  have hown : s.vm.findClass RX3 = some m.cls := findClass_of_methodNamed B.named
  have hS : va_S A s.heap s.heap [] := va_S.rf
  have hF : Fr [] [(6, 3)] G G := Fr.rf
  have hl := lv_entry ([.ref (a 6)]) (n := 1) (Nat.le_of_ble_eq_true rfl)
  rw [lg_entry_eq]
  generalize (lg_sl ([.ref (a 6)]) ++ List.replicate (1 - (lg_sl ([.ref (a 6)])).length) Slot.unset).toArray = ls at hl ⊢
  have hl : lv_has ls 1 [(0, .ref (a 6))] := hl
  refine lv_aload_n hx hb dX3_pop_0 rfl (lv_at hl 0 rfl) ?_
  have b_1 : 0 ≤ (G.1 6 3).toInt ∧ (G.1 6 3).toInt ≤ 100 := bd_6_3 hB_G
  refine S_getI (v := (G.1 6 3)) (C := RX3) (T := TX3) (N := 5) hx hb hg iX3 hown hK hW kd_6 rfl 3 (lt_b rfl) (hg (Cond.fieldLink RX3 66 "SlabWalk$Lines" "top" "I") m352) (fun _ h9 => h9) rfl rfl dX3_pop_1 ?_
  refine lv_if_le (tgt := 26) hx hb dX3_pop_4 rfl (fun c_2 => ?_) (fun c_2 => ?_)
  · have c_2 : (G.1 6 3).toInt ≤ 0 := xI_le rfl rfl c_2
    refine ic_0 hx hb dX3_pop_26 ?_
    exact W.iret (v := 0) hx hb hr (fun t ht _ => ⟨⟨0, G, rfl, (P_lPop_mk ⟨hB_G, hF, (Or.inl ⟨c_2, ⟨rfl, rfl⟩⟩)⟩), wd_t ht hW⟩, hS.F ht⟩) hS.2.2 dX3_pop_27
  · have c_2 : 0 < (G.1 6 3).toInt := xI_nle rfl rfl c_2
    refine lv_aload_n hx hb dX3_pop_7 rfl (lv_at hl 0 rfl) ?_
    refine S_getR (n := 39) (C := RX3) (T := TX3) (N := 5) hx hb hg iX3 hown hK hW kd_6 rfl 2 (lt_b rfl) (hg (Cond.fieldLink RX3 18 "SlabWalk$Lines" "values" "[I") m351) (fun _ h9 => h9) rfl dX3_pop_8 ?_
    refine lv_aload_n hx hb dX3_pop_11 rfl (lv_at hl 0 rfl) ?_
    refine lv_dup hx hb dX3_pop_12 rfl ?_
    refine S_getI (v := (G.1 6 3)) (C := RX3) (T := TX3) (N := 5) hx hb hg iX3 hown hK hW kd_6 rfl 3 (lt_b rfl) (hg (Cond.fieldLink RX3 66 "SlabWalk$Lines" "top" "I") m352) (fun _ h9 => h9) rfl rfl dX3_pop_13 ?_
    refine ic_1 hx hb dX3_pop_16 ?_
    refine lv_isub hx hb dX3_pop_17 ?_
    refine lv_topi (fun y_3 ey_3 => ?_)
    have ty_3 : y_3.toInt = (G.1 6 3).toInt - 1 := xI_sub rfl rfl ey_3 (by omega) (by omega)
    refine lv_dup_x1 hx hb dX3_pop_18 rfl rfl ?_
    refine S_putI (ty := .int) (C := RX3) (T := TX3) (N := 5) hx hb hg iX3 tyX3 tyX3_ok nmX3 hown hK hW hS kd_6 rfl 3 (lt_b rfl) (hg (Cond.fieldLink RX3 66 "SlabWalk$Lines" "top" "I") m352) (fun _ h9 => h9) rfl (by decide +kernel) rfl rfl rfl dX3_pop_19 (fun G_4 H locs eG_4 hW hS => ?_)
    have hB_G_4 : Bd G_4 := hB_G.put (V := y_3.toInt) (lo := 0) (hi := 100) eG_4 rfl rfl rfl (by omega) (by omega) (hB_G.2.put eG_4 rfl)
    have hF := hF.put eG_4 (Or.inr (by decide))
    refine S_iald hx hb hK hW kd_39 (vin (by omega) (by omega)) dX3_pop_22 (fun y_5 ey_5 => ?_)
    refine lv_goto (tgt := 27) hx hb dX3_pop_23 rfl ?_
    exact W.iret (v := y_5) hx hb hr (fun t ht _ => ⟨⟨y_5, G_4, rfl, (P_lPop_mk ⟨hB_G_4, hF, (Or.inr ⟨c_2, ⟨y_3, ty_3, ⟨y_5, ey_5.trans (congrFun (rw_put eG_4 (by decide)) _), ⟨rfl, (Fr.put (rs := []) (fs := [(6, 3)]) Fr.rf eG_4 (Or.inr (by decide))), (gp_eq eG_4)⟩⟩⟩⟩)⟩), wd_t ht hW⟩, hS.F ht⟩) hS.2.2 dX3_pop_27

set_option maxHeartbeats 4000000 in
set_option maxRecDepth 100000 in
theorem k_lOwn (l : Launch) (D : va_G) (k : KT) (A : Nat → Prop) (a : Nat → Nat) (z : SK) (G : GS) (p0 : Int32) (p1 : Int32) (p2 : Int32)  : Met l yX3_ownOf (WS yX3_ownOf cX3_ownOf 3 (some .int)) ({ frames := 1, cells := 0, slots := 0, locals := 21 }) (va_Pc [.int p0, .int p1, .int p2] (cW D k A a z G)) (va_Qi (fun (r : Int32) (G1 : GS) => P_lOwn p0 p1 p2 G r G1) (fun (G1 : GS) t => Wd D k A a G1 t.heap) A) 0 0 A := by
  refine Met.ofW (cc := cX3_ownOf) (maxL := 3) (ret := (some .int)) (by decide) rfl ?_
  intro p e s m args below meth c s₁ B hml hv
  obtain ⟨rfl, hW, hB_G, hK, hZ⟩ := hv
  have hx := B.exec
  have hb := B.bytes
  have hr := B.returns
  have hts := atoms_spec (ws := WS yX3_ownOf cX3_ownOf 3 (some .int)) B.pre
  have hgd : ∀ w ∈ gd, w ∈ WS yX3_ownOf cX3_ownOf 3 (some .int) := fun w h => List.mem_cons_of_mem _ h
  have hg : ∀ w ∈ gd, w.before _ s = true := fun w h => hts w (hgd w h)
  have hown : s.vm.findClass RX3 = some m.cls := findClass_of_methodNamed B.named
  have hS : va_S A s.heap s.heap [] := va_S.rf
  have hF : Fr [] [] G G := Fr.rf
  have hl := lv_entry ([.int p0, .int p1, .int p2]) (n := 3) (Nat.le_of_ble_eq_true rfl)
  rw [lg_entry_eq]
  generalize (lg_sl ([.int p0, .int p1, .int p2]) ++ List.replicate (3 - (lg_sl ([.int p0, .int p1, .int p2])).length) Slot.unset).toArray = ls at hl ⊢
  have hl : lv_has ls 3 [(0, .int p0), (1, .int p1), (2, .int p2)] := hl
  refine lv_iload_n hx hb dX3_ownOf_0 rfl (lv_at hl 0 rfl) ?_
  by_cases c_1 : p0 = 147
  · refine lv_tableIn (tgt := 46) hx hb dX3_ownOf_1 (by rw [c_1]; decide) (by rw [c_1]; decide) (off := 45) (by rw [c_1]; decide) (by decide) ?_
    have c_1 : p0.toInt = 147 := xI_eq rfl rfl c_1
    refine lv_iload_n hx hb dX3_ownOf_46 rfl (lv_at hl 1 rfl) ?_
    refine ic_3 hx hb dX3_ownOf_47 ?_
    refine S_calli (va_runS (As := [.int p1, .int 3]) (rest := []) ⟨hx, hb, hml, hown, hts⟩ (k_part l D k A a z G p1 3 ) (va_cwS 2 hts (gd_S hgd m939 m896 m118 m897) rfl rfl rfl hd_X6_part.2 ⟨Nat.le_of_ble_eq_true rfl, Nat.le_of_ble_eq_true rfl⟩) (pre_S hW hB_G hK hZ hS) rfl rfl hl.1 rfl (lv_room (Nat.le_of_ble_eq_true rfl)) dX3_ownOf_48 ⟨Nat.le_of_ble_eq_true rfl, Nat.le_of_ble_eq_true rfl⟩) hS (fun r_2 G_3 H locs hpo hW hS => ?_)
    have hX_6 : P_part p1 3 G r_2 G_3 := hpo
    obtain ⟨hB_G_3, hq_4, -⟩ := hpo
    have hF := hF.call9 hq_4 rfl rfl
    exact W.iret (v := r_2) hx hb hr (fun t ht _ => ⟨⟨r_2, G_3, rfl, (P_lOwn_mk ⟨hB_G_3, hF, (Or.inl ⟨c_1, ⟨r_2, G_3, hX_6, ⟨rfl, rfl⟩⟩⟩)⟩), wd_t ht hW⟩, hS.F ht⟩) hS.2.2 dX3_ownOf_51
  by_cases c_7 : p0 = 148
  · refine lv_tableIn (tgt := 34) hx hb dX3_ownOf_1 (by rw [c_7]; decide) (by rw [c_7]; decide) (off := 33) (by rw [c_7]; decide) (by decide) ?_
    have c_7 : p0.toInt = 148 := xI_eq rfl rfl c_7
    refine lv_iload_n hx hb dX3_ownOf_34 rfl (lv_at hl 1 rfl) ?_
    refine ic_1 hx hb dX3_ownOf_35 ?_
    refine S_calli (va_runS (As := [.int p1, .int 1]) (rest := []) ⟨hx, hb, hml, hown, hts⟩ (k_part l D k A a z G p1 1 ) (va_cwS 2 hts (gd_S hgd m939 m896 m118 m897) rfl rfl rfl hd_X6_part.2 ⟨Nat.le_of_ble_eq_true rfl, Nat.le_of_ble_eq_true rfl⟩) (pre_S hW hB_G hK hZ hS) rfl rfl hl.1 rfl (lv_room (Nat.le_of_ble_eq_true rfl)) dX3_ownOf_36 ⟨Nat.le_of_ble_eq_true rfl, Nat.le_of_ble_eq_true rfl⟩) hS (fun r_8 G_9 H locs hpo hW hS => ?_)
    have hX_12 : P_part p1 1 G r_8 G_9 := hpo
    obtain ⟨hB_G_9, hq_10, -⟩ := hpo
    have hF := hF.call9 hq_10 rfl rfl
    exact W.iret (v := r_8) hx hb hr (fun t ht _ => ⟨⟨r_8, G_9, rfl, (P_lOwn_mk ⟨hB_G_9, hF, (Or.inr ⟨(xI_ne (Y := 147) rfl rfl c_1), (Or.inl ⟨c_7, ⟨r_8, G_9, hX_12, ⟨rfl, rfl⟩⟩⟩)⟩)⟩), wd_t ht hW⟩, hS.F ht⟩) hS.2.2 dX3_ownOf_39
  by_cases c_13 : p0 = 149
  · refine lv_tableIn (tgt := 40) hx hb dX3_ownOf_1 (by rw [c_13]; decide) (by rw [c_13]; decide) (off := 39) (by rw [c_13]; decide) (by decide) ?_
    have c_13 : p0.toInt = 149 := xI_eq rfl rfl c_13
    refine lv_iload_n hx hb dX3_ownOf_40 rfl (lv_at hl 1 rfl) ?_
    refine ic_2 hx hb dX3_ownOf_41 ?_
    refine S_calli (va_runS (As := [.int p1, .int 2]) (rest := []) ⟨hx, hb, hml, hown, hts⟩ (k_part l D k A a z G p1 2 ) (va_cwS 2 hts (gd_S hgd m939 m896 m118 m897) rfl rfl rfl hd_X6_part.2 ⟨Nat.le_of_ble_eq_true rfl, Nat.le_of_ble_eq_true rfl⟩) (pre_S hW hB_G hK hZ hS) rfl rfl hl.1 rfl (lv_room (Nat.le_of_ble_eq_true rfl)) dX3_ownOf_42 ⟨Nat.le_of_ble_eq_true rfl, Nat.le_of_ble_eq_true rfl⟩) hS (fun r_14 G_15 H locs hpo hW hS => ?_)
    have hX_18 : P_part p1 2 G r_14 G_15 := hpo
    obtain ⟨hB_G_15, hq_16, -⟩ := hpo
    have hF := hF.call9 hq_16 rfl rfl
    exact W.iret (v := r_14) hx hb hr (fun t ht _ => ⟨⟨r_14, G_15, rfl, (P_lOwn_mk ⟨hB_G_15, hF, (Or.inr ⟨(xI_ne (Y := 147) rfl rfl c_1), (Or.inr ⟨(xI_ne (Y := 148) rfl rfl c_7), (Or.inl ⟨c_13, ⟨r_14, G_15, hX_18, ⟨rfl, rfl⟩⟩⟩)⟩)⟩)⟩), wd_t ht hW⟩, hS.F ht⟩) hS.2.2 dX3_ownOf_45
  by_cases c_19 : p0 = 150
  · refine lv_tableIn (tgt := 32) hx hb dX3_ownOf_1 (by rw [c_19]; decide) (by rw [c_19]; decide) (off := 31) (by rw [c_19]; decide) (by decide) ?_
    have c_19 : p0.toInt = 150 := xI_eq rfl rfl c_19
    refine lv_iload_n hx hb dX3_ownOf_32 rfl (lv_at hl 2 rfl) ?_
    exact W.iret (v := p2) hx hb hr (fun t ht _ => ⟨⟨p2, G, rfl, (P_lOwn_mk ⟨hB_G, hF, (Or.inr ⟨(xI_ne (Y := 147) rfl rfl c_1), (Or.inr ⟨(xI_ne (Y := 148) rfl rfl c_7), (Or.inr ⟨(xI_ne (Y := 149) rfl rfl c_13), (Or.inl ⟨c_19, ⟨rfl, rfl⟩⟩)⟩)⟩)⟩)⟩), wd_t ht hW⟩, hS.F ht⟩) hS.2.2 dX3_ownOf_33
  refine lv_tableOut (tgt := 52) hx hb dX3_ownOf_1 (tb_out (lo := 147) (hi := 150) (by have c_1 := xI_ne (Y := 147) rfl rfl c_1; have c_7 := xI_ne (Y := 148) rfl rfl c_7; have c_13 := xI_ne (Y := 149) rfl rfl c_13; have c_19 := xI_ne (Y := 150) rfl rfl c_19; omega)) (by decide) ?_
  have c_1 := xI_ne (Y := 147) rfl rfl c_1
  have c_7 := xI_ne (Y := 148) rfl rfl c_7
  have c_13 := xI_ne (Y := 149) rfl rfl c_13
  have c_19 := xI_ne (Y := 150) rfl rfl c_19
  refine lv_iload_n hx hb dX3_ownOf_52 rfl (lv_at hl 1 rfl) ?_
  refine lv_iload_n hx hb dX3_ownOf_53 rfl (lv_at hl 0 rfl) ?_
  refine lv_sipush (v := 139) hx hb dX3_ownOf_54 (by decide) ?_
  refine lv_isub hx hb dX3_ownOf_57 ?_
  refine lv_topi (fun y_20 ey_20 => ?_)
  refine lv_ishr hx hb dX3_ownOf_58 ?_
  refine lv_topi (fun y_21 ey_21 => ?_)
  refine ic_1 hx hb dX3_ownOf_59 ?_
  refine lv_iand hx hb dX3_ownOf_60 ?_
  refine lv_topi (fun y_22 ey_22 => ?_)
  have ty_22 := xI_and (Y := 1) rfl ey_22 (by decide)
  exact W.iret (v := y_22) hx hb hr (fun t ht _ => ⟨⟨y_22, G, rfl, (P_lOwn_mk ⟨hB_G, hF, (Or.inr ⟨c_1, (Or.inr ⟨c_7, (Or.inr ⟨c_13, (Or.inr ⟨c_19, ⟨y_20, ey_20, ⟨y_21, ey_21, ⟨y_22, ey_22, ⟨rfl, rfl⟩⟩⟩⟩⟩)⟩)⟩)⟩)⟩), wd_t ht hW⟩, hS.F ht⟩) hS.2.2 dX3_ownOf_61

set_option maxHeartbeats 4000000 in
set_option maxRecDepth 100000 in
theorem k_lJoin (l : Launch) (D : va_G) (k : KT) (A : Nat → Prop) (a : Nat → Nat) (z : SK) (G : GS) (p0 : Int32) (p1 : Int32) (p2 : Int32)  : Met l yX3_join (WS yX3_join cX3_join 3 (some .int)) ({ frames := 0, cells := 0, slots := 0, locals := 0 }) (va_Pc [.int p0, .int p1, .int p2] (cW D k A a z G)) (va_Qi (fun (r : Int32) (G1 : GS) => P_lJoin p0 p1 p2 G r G1) (fun (G1 : GS) t => Wd D k A a G1 t.heap) A) 0 0 A := by
  refine Met.ofW (cc := cX3_join) (maxL := 3) (ret := (some .int)) (by decide) rfl ?_
  intro p e s m args below meth c s₁ B hml hv
  obtain ⟨rfl, hW, hB_G, hK, hZ⟩ := hv
  have hx := B.exec
  have hb := B.bytes
  have hr := B.returns
  have hts := atoms_spec (ws := WS yX3_join cX3_join 3 (some .int)) B.pre
  have hgd : ∀ w ∈ gd, w ∈ WS yX3_join cX3_join 3 (some .int) := fun w h => List.mem_cons_of_mem _ h
  have hg : ∀ w ∈ gd, w.before _ s = true := fun w h => hts w (hgd w h)
  have hown : s.vm.findClass RX3 = some m.cls := findClass_of_methodNamed B.named
  have hS : va_S A s.heap s.heap [] := va_S.rf
  have hF : Fr [] [] G G := Fr.rf
  have hl := lv_entry ([.int p0, .int p1, .int p2]) (n := 3) (Nat.le_of_ble_eq_true rfl)
  rw [lg_entry_eq]
  generalize (lg_sl ([.int p0, .int p1, .int p2]) ++ List.replicate (3 - (lg_sl ([.int p0, .int p1, .int p2])).length) Slot.unset).toArray = ls at hl ⊢
  have hl : lv_has ls 3 [(0, .int p0), (1, .int p1), (2, .int p2)] := hl
  refine lv_iload_n hx hb dX3_join_0 rfl (lv_at hl 0 rfl) ?_
  by_cases c_1 : p0 = 42
  · refine lv_lookup (tgt := 153) hx hb dX3_join_1 (by decide) (off := 152) (by rw [c_1]; decide) (by decide) ?_
    have c_1 : p0.toInt = 42 := xI_eq rfl rfl c_1
    refine lv_iload_n hx hb dX3_join_153 rfl (lv_at hl 1 rfl) ?_
    refine lv_iload_n hx hb dX3_join_154 rfl (lv_at hl 2 rfl) ?_
    refine lv_imul hx hb dX3_join_155 ?_
    refine lv_topi (fun y_2 ey_2 => ?_)
    exact W.iret (v := y_2) hx hb hr (fun t ht _ => ⟨⟨y_2, G, rfl, (P_lJoin_mk ⟨hB_G, hF, (Or.inl ⟨c_1, ⟨y_2, ey_2, ⟨rfl, rfl⟩⟩⟩)⟩), wd_t ht hW⟩, hS.F ht⟩) hS.2.2 dX3_join_156
  by_cases c_3 : p0 = 43
  · refine lv_lookup (tgt := 145) hx hb dX3_join_1 (by decide) (off := 144) (by rw [c_3]; decide) (by decide) ?_
    have c_3 : p0.toInt = 43 := xI_eq rfl rfl c_3
    refine lv_iload_n hx hb dX3_join_145 rfl (lv_at hl 1 rfl) ?_
    refine lv_iload_n hx hb dX3_join_146 rfl (lv_at hl 2 rfl) ?_
    refine lv_iadd hx hb dX3_join_147 ?_
    refine lv_topi (fun y_4 ey_4 => ?_)
    exact W.iret (v := y_4) hx hb hr (fun t ht _ => ⟨⟨y_4, G, rfl, (P_lJoin_mk ⟨hB_G, hF, (Or.inr ⟨(xI_ne (Y := 42) rfl rfl c_1), (Or.inl ⟨c_3, ⟨y_4, ey_4, ⟨rfl, rfl⟩⟩⟩)⟩)⟩), wd_t ht hW⟩, hS.F ht⟩) hS.2.2 dX3_join_148
  by_cases c_5 : p0 = 45
  · refine lv_lookup (tgt := 149) hx hb dX3_join_1 (by decide) (off := 148) (by rw [c_5]; decide) (by decide) ?_
    have c_5 : p0.toInt = 45 := xI_eq rfl rfl c_5
    refine lv_iload_n hx hb dX3_join_149 rfl (lv_at hl 1 rfl) ?_
    refine lv_iload_n hx hb dX3_join_150 rfl (lv_at hl 2 rfl) ?_
    refine lv_isub hx hb dX3_join_151 ?_
    refine lv_topi (fun y_6 ey_6 => ?_)
    exact W.iret (v := y_6) hx hb hr (fun t ht _ => ⟨⟨y_6, G, rfl, (P_lJoin_mk ⟨hB_G, hF, (Or.inr ⟨(xI_ne (Y := 42) rfl rfl c_1), (Or.inr ⟨(xI_ne (Y := 43) rfl rfl c_3), (Or.inl ⟨c_5, ⟨y_6, ey_6, ⟨rfl, rfl⟩⟩⟩)⟩)⟩)⟩), wd_t ht hW⟩, hS.F ht⟩) hS.2.2 dX3_join_152
  by_cases c_7 : p0 = 47
  · refine lv_lookup (tgt := 157) hx hb dX3_join_1 (by decide) (off := 156) (by rw [c_7]; decide) (by decide) ?_
    have c_7 : p0.toInt = 47 := xI_eq rfl rfl c_7
    refine lv_iload_n hx hb dX3_join_157 rfl (lv_at hl 2 rfl) ?_
    refine lv_if_ne (tgt := 165) hx hb dX3_join_158 rfl (fun c_8 => ?_) (fun c_8 => ?_)
    · have c_8 : p2.toInt ≠ 0 := xI_ne rfl rfl c_8
      refine lv_iload_n hx hb dX3_join_165 rfl (lv_at hl 1 rfl) ?_
      refine lv_iload_n hx hb dX3_join_166 rfl (lv_at hl 2 rfl) ?_
      refine lv_idiv hx hb dX3_join_167 (fun q => by have q := xI_eq (Y := 0) rfl rfl q; omega) ?_
      refine lv_topi (fun y_9 ey_9 => ?_)
      exact W.iret (v := y_9) hx hb hr (fun t ht _ => ⟨⟨y_9, G, rfl, (P_lJoin_mk ⟨hB_G, hF, (Or.inr ⟨(xI_ne (Y := 42) rfl rfl c_1), (Or.inr ⟨(xI_ne (Y := 43) rfl rfl c_3), (Or.inr ⟨(xI_ne (Y := 45) rfl rfl c_5), (Or.inl ⟨c_7, (Or.inr ⟨c_8, ⟨y_9, ey_9, ⟨rfl, rfl⟩⟩⟩)⟩)⟩)⟩)⟩)⟩), wd_t ht hW⟩, hS.F ht⟩) hS.2.2 dX3_join_168
    · have c_8 : p2.toInt = 0 := xI_eq rfl rfl c_8
      refine ic_0 hx hb dX3_join_161 ?_
      refine lv_goto (tgt := 168) hx hb dX3_join_162 rfl ?_
      exact W.iret (v := 0) hx hb hr (fun t ht _ => ⟨⟨0, G, rfl, (P_lJoin_mk ⟨hB_G, hF, (Or.inr ⟨(xI_ne (Y := 42) rfl rfl c_1), (Or.inr ⟨(xI_ne (Y := 43) rfl rfl c_3), (Or.inr ⟨(xI_ne (Y := 45) rfl rfl c_5), (Or.inl ⟨c_7, (Or.inl ⟨c_8, ⟨rfl, rfl⟩⟩)⟩)⟩)⟩)⟩)⟩), wd_t ht hW⟩, hS.F ht⟩) hS.2.2 dX3_join_168
  by_cases c_10 : p0 = 60
  · refine lv_lookup (tgt := 112) hx hb dX3_join_1 (by decide) (off := 111) (by rw [c_10]; decide) (by decide) ?_
    have c_10 : p0.toInt = 60 := xI_eq rfl rfl c_10
    refine lv_iload_n hx hb dX3_join_112 rfl (lv_at hl 1 rfl) ?_
    refine lv_iload_n hx hb dX3_join_113 rfl (lv_at hl 2 rfl) ?_
    refine lv_icmp_ge (tgt := 121) hx hb dX3_join_114 rfl (fun c_11 => ?_) (fun c_11 => ?_)
    · have c_11 : p2.toInt ≤ p1.toInt := xI_le rfl rfl c_11
      refine ic_0 hx hb dX3_join_121 ?_
      exact W.iret (v := 0) hx hb hr (fun t ht _ => ⟨⟨0, G, rfl, (P_lJoin_mk ⟨hB_G, hF, (Or.inr ⟨(xI_ne (Y := 42) rfl rfl c_1), (Or.inr ⟨(xI_ne (Y := 43) rfl rfl c_3), (Or.inr ⟨(xI_ne (Y := 45) rfl rfl c_5), (Or.inr ⟨(xI_ne (Y := 47) rfl rfl c_7), (Or.inl ⟨c_10, (Or.inl ⟨c_11, ⟨rfl, rfl⟩⟩)⟩)⟩)⟩)⟩)⟩)⟩), wd_t ht hW⟩, hS.F ht⟩) hS.2.2 dX3_join_122
    · have c_11 : p1.toInt < p2.toInt := xI_nle rfl rfl c_11
      refine ic_1 hx hb dX3_join_117 ?_
      refine lv_goto (tgt := 122) hx hb dX3_join_118 rfl ?_
      exact W.iret (v := 1) hx hb hr (fun t ht _ => ⟨⟨1, G, rfl, (P_lJoin_mk ⟨hB_G, hF, (Or.inr ⟨(xI_ne (Y := 42) rfl rfl c_1), (Or.inr ⟨(xI_ne (Y := 43) rfl rfl c_3), (Or.inr ⟨(xI_ne (Y := 45) rfl rfl c_5), (Or.inr ⟨(xI_ne (Y := 47) rfl rfl c_7), (Or.inl ⟨c_10, (Or.inr ⟨c_11, ⟨rfl, rfl⟩⟩)⟩)⟩)⟩)⟩)⟩)⟩), wd_t ht hW⟩, hS.F ht⟩) hS.2.2 dX3_join_122
  by_cases c_12 : p0 = 61
  · refine lv_lookup (tgt := 134) hx hb dX3_join_1 (by decide) (off := 133) (by rw [c_12]; decide) (by decide) ?_
    have c_12 : p0.toInt = 61 := xI_eq rfl rfl c_12
    refine lv_iload_n hx hb dX3_join_134 rfl (lv_at hl 1 rfl) ?_
    refine lv_iload_n hx hb dX3_join_135 rfl (lv_at hl 2 rfl) ?_
    refine lv_icmp_ne (tgt := 143) hx hb dX3_join_136 rfl (fun c_13 => ?_) (fun c_13 => ?_)
    · have c_13 : p1.toInt ≠ p2.toInt := xI_ne rfl rfl c_13
      refine ic_0 hx hb dX3_join_143 ?_
      exact W.iret (v := 0) hx hb hr (fun t ht _ => ⟨⟨0, G, rfl, (P_lJoin_mk ⟨hB_G, hF, (Or.inr ⟨(xI_ne (Y := 42) rfl rfl c_1), (Or.inr ⟨(xI_ne (Y := 43) rfl rfl c_3), (Or.inr ⟨(xI_ne (Y := 45) rfl rfl c_5), (Or.inr ⟨(xI_ne (Y := 47) rfl rfl c_7), (Or.inr ⟨(xI_ne (Y := 60) rfl rfl c_10), (Or.inl ⟨c_12, (Or.inr ⟨c_13, ⟨rfl, rfl⟩⟩)⟩)⟩)⟩)⟩)⟩)⟩)⟩), wd_t ht hW⟩, hS.F ht⟩) hS.2.2 dX3_join_144
    · have c_13 : p1.toInt = p2.toInt := xI_eq rfl rfl c_13
      refine ic_1 hx hb dX3_join_139 ?_
      refine lv_goto (tgt := 144) hx hb dX3_join_140 rfl ?_
      exact W.iret (v := 1) hx hb hr (fun t ht _ => ⟨⟨1, G, rfl, (P_lJoin_mk ⟨hB_G, hF, (Or.inr ⟨(xI_ne (Y := 42) rfl rfl c_1), (Or.inr ⟨(xI_ne (Y := 43) rfl rfl c_3), (Or.inr ⟨(xI_ne (Y := 45) rfl rfl c_5), (Or.inr ⟨(xI_ne (Y := 47) rfl rfl c_7), (Or.inr ⟨(xI_ne (Y := 60) rfl rfl c_10), (Or.inl ⟨c_12, (Or.inl ⟨c_13, ⟨rfl, rfl⟩⟩)⟩)⟩)⟩)⟩)⟩)⟩)⟩), wd_t ht hW⟩, hS.F ht⟩) hS.2.2 dX3_join_144
  by_cases c_14 : p0 = 62
  · refine lv_lookup (tgt := 123) hx hb dX3_join_1 (by decide) (off := 122) (by rw [c_14]; decide) (by decide) ?_
    have c_14 : p0.toInt = 62 := xI_eq rfl rfl c_14
    refine lv_iload_n hx hb dX3_join_123 rfl (lv_at hl 1 rfl) ?_
    refine lv_iload_n hx hb dX3_join_124 rfl (lv_at hl 2 rfl) ?_
    refine lv_icmp_le (tgt := 132) hx hb dX3_join_125 rfl (fun c_15 => ?_) (fun c_15 => ?_)
    · have c_15 : p1.toInt ≤ p2.toInt := xI_le rfl rfl c_15
      refine ic_0 hx hb dX3_join_132 ?_
      exact W.iret (v := 0) hx hb hr (fun t ht _ => ⟨⟨0, G, rfl, (P_lJoin_mk ⟨hB_G, hF, (Or.inr ⟨(xI_ne (Y := 42) rfl rfl c_1), (Or.inr ⟨(xI_ne (Y := 43) rfl rfl c_3), (Or.inr ⟨(xI_ne (Y := 45) rfl rfl c_5), (Or.inr ⟨(xI_ne (Y := 47) rfl rfl c_7), (Or.inr ⟨(xI_ne (Y := 60) rfl rfl c_10), (Or.inr ⟨(xI_ne (Y := 61) rfl rfl c_12), (Or.inl ⟨c_14, (Or.inl ⟨c_15, ⟨rfl, rfl⟩⟩)⟩)⟩)⟩)⟩)⟩)⟩)⟩)⟩), wd_t ht hW⟩, hS.F ht⟩) hS.2.2 dX3_join_133
    · have c_15 : p2.toInt < p1.toInt := xI_nle rfl rfl c_15
      refine ic_1 hx hb dX3_join_128 ?_
      refine lv_goto (tgt := 133) hx hb dX3_join_129 rfl ?_
      exact W.iret (v := 1) hx hb hr (fun t ht _ => ⟨⟨1, G, rfl, (P_lJoin_mk ⟨hB_G, hF, (Or.inr ⟨(xI_ne (Y := 42) rfl rfl c_1), (Or.inr ⟨(xI_ne (Y := 43) rfl rfl c_3), (Or.inr ⟨(xI_ne (Y := 45) rfl rfl c_5), (Or.inr ⟨(xI_ne (Y := 47) rfl rfl c_7), (Or.inr ⟨(xI_ne (Y := 60) rfl rfl c_10), (Or.inr ⟨(xI_ne (Y := 61) rfl rfl c_12), (Or.inl ⟨c_14, (Or.inr ⟨c_15, ⟨rfl, rfl⟩⟩)⟩)⟩)⟩)⟩)⟩)⟩)⟩)⟩), wd_t ht hW⟩, hS.F ht⟩) hS.2.2 dX3_join_133
  by_cases c_16 : p0 = 144
  · refine lv_lookup (tgt := 84) hx hb dX3_join_1 (by decide) (off := 83) (by rw [c_16]; decide) (by decide) ?_
    have c_16 : p0.toInt = 144 := xI_eq rfl rfl c_16
    refine lv_iload_n hx hb dX3_join_84 rfl (lv_at hl 1 rfl) ?_
    refine lv_if_ne (tgt := 92) hx hb dX3_join_85 rfl (fun c_17 => ?_) (fun c_17 => ?_)
    · have c_17 : p1.toInt ≠ 0 := xI_ne rfl rfl c_17
      refine ic_1 hx hb dX3_join_92 ?_
      refine lv_goto (tgt := 97) hx hb dX3_join_93 rfl ?_
      exact W.iret (v := 1) hx hb hr (fun t ht _ => ⟨⟨1, G, rfl, (P_lJoin_mk ⟨hB_G, hF, (Or.inr ⟨(xI_ne (Y := 42) rfl rfl c_1), (Or.inr ⟨(xI_ne (Y := 43) rfl rfl c_3), (Or.inr ⟨(xI_ne (Y := 45) rfl rfl c_5), (Or.inr ⟨(xI_ne (Y := 47) rfl rfl c_7), (Or.inr ⟨(xI_ne (Y := 60) rfl rfl c_10), (Or.inr ⟨(xI_ne (Y := 61) rfl rfl c_12), (Or.inr ⟨(xI_ne (Y := 62) rfl rfl c_14), (Or.inl ⟨c_16, (Or.inr ⟨c_17, ⟨rfl, rfl⟩⟩)⟩)⟩)⟩)⟩)⟩)⟩)⟩)⟩)⟩), wd_t ht hW⟩, hS.F ht⟩) hS.2.2 dX3_join_97
    · have c_17 : p1.toInt = 0 := xI_eq rfl rfl c_17
      refine lv_iload_n hx hb dX3_join_88 rfl (lv_at hl 2 rfl) ?_
      refine lv_if_eq (tgt := 96) hx hb dX3_join_89 rfl (fun c_18 => ?_) (fun c_18 => ?_)
      · have c_18 : p2.toInt = 0 := xI_eq rfl rfl c_18
        refine ic_0 hx hb dX3_join_96 ?_
        exact W.iret (v := 0) hx hb hr (fun t ht _ => ⟨⟨0, G, rfl, (P_lJoin_mk ⟨hB_G, hF, (Or.inr ⟨(xI_ne (Y := 42) rfl rfl c_1), (Or.inr ⟨(xI_ne (Y := 43) rfl rfl c_3), (Or.inr ⟨(xI_ne (Y := 45) rfl rfl c_5), (Or.inr ⟨(xI_ne (Y := 47) rfl rfl c_7), (Or.inr ⟨(xI_ne (Y := 60) rfl rfl c_10), (Or.inr ⟨(xI_ne (Y := 61) rfl rfl c_12), (Or.inr ⟨(xI_ne (Y := 62) rfl rfl c_14), (Or.inl ⟨c_16, (Or.inl ⟨c_17, (Or.inl ⟨c_18, ⟨rfl, rfl⟩⟩)⟩)⟩)⟩)⟩)⟩)⟩)⟩)⟩)⟩)⟩), wd_t ht hW⟩, hS.F ht⟩) hS.2.2 dX3_join_97
      · have c_18 : p2.toInt ≠ 0 := xI_ne rfl rfl c_18
        refine ic_1 hx hb dX3_join_92 ?_
        refine lv_goto (tgt := 97) hx hb dX3_join_93 rfl ?_
        exact W.iret (v := 1) hx hb hr (fun t ht _ => ⟨⟨1, G, rfl, (P_lJoin_mk ⟨hB_G, hF, (Or.inr ⟨(xI_ne (Y := 42) rfl rfl c_1), (Or.inr ⟨(xI_ne (Y := 43) rfl rfl c_3), (Or.inr ⟨(xI_ne (Y := 45) rfl rfl c_5), (Or.inr ⟨(xI_ne (Y := 47) rfl rfl c_7), (Or.inr ⟨(xI_ne (Y := 60) rfl rfl c_10), (Or.inr ⟨(xI_ne (Y := 61) rfl rfl c_12), (Or.inr ⟨(xI_ne (Y := 62) rfl rfl c_14), (Or.inl ⟨c_16, (Or.inl ⟨c_17, (Or.inr ⟨c_18, ⟨rfl, rfl⟩⟩)⟩)⟩)⟩)⟩)⟩)⟩)⟩)⟩)⟩)⟩), wd_t ht hW⟩, hS.F ht⟩) hS.2.2 dX3_join_97
  by_cases c_19 : p0 = 145
  · refine lv_lookup (tgt := 98) hx hb dX3_join_1 (by decide) (off := 97) (by rw [c_19]; decide) (by decide) ?_
    have c_19 : p0.toInt = 145 := xI_eq rfl rfl c_19
    refine lv_iload_n hx hb dX3_join_98 rfl (lv_at hl 1 rfl) ?_
    refine lv_if_eq (tgt := 110) hx hb dX3_join_99 rfl (fun c_20 => ?_) (fun c_20 => ?_)
    · have c_20 : p1.toInt = 0 := xI_eq rfl rfl c_20
      refine ic_0 hx hb dX3_join_110 ?_
      exact W.iret (v := 0) hx hb hr (fun t ht _ => ⟨⟨0, G, rfl, (P_lJoin_mk ⟨hB_G, hF, (Or.inr ⟨(xI_ne (Y := 42) rfl rfl c_1), (Or.inr ⟨(xI_ne (Y := 43) rfl rfl c_3), (Or.inr ⟨(xI_ne (Y := 45) rfl rfl c_5), (Or.inr ⟨(xI_ne (Y := 47) rfl rfl c_7), (Or.inr ⟨(xI_ne (Y := 60) rfl rfl c_10), (Or.inr ⟨(xI_ne (Y := 61) rfl rfl c_12), (Or.inr ⟨(xI_ne (Y := 62) rfl rfl c_14), (Or.inr ⟨(xI_ne (Y := 144) rfl rfl c_16), (Or.inl ⟨c_19, (Or.inl ⟨c_20, ⟨rfl, rfl⟩⟩)⟩)⟩)⟩)⟩)⟩)⟩)⟩)⟩)⟩)⟩), wd_t ht hW⟩, hS.F ht⟩) hS.2.2 dX3_join_111
    · have c_20 : p1.toInt ≠ 0 := xI_ne rfl rfl c_20
      refine lv_iload_n hx hb dX3_join_102 rfl (lv_at hl 2 rfl) ?_
      refine lv_if_eq (tgt := 110) hx hb dX3_join_103 rfl (fun c_21 => ?_) (fun c_21 => ?_)
      · have c_21 : p2.toInt = 0 := xI_eq rfl rfl c_21
        refine ic_0 hx hb dX3_join_110 ?_
        exact W.iret (v := 0) hx hb hr (fun t ht _ => ⟨⟨0, G, rfl, (P_lJoin_mk ⟨hB_G, hF, (Or.inr ⟨(xI_ne (Y := 42) rfl rfl c_1), (Or.inr ⟨(xI_ne (Y := 43) rfl rfl c_3), (Or.inr ⟨(xI_ne (Y := 45) rfl rfl c_5), (Or.inr ⟨(xI_ne (Y := 47) rfl rfl c_7), (Or.inr ⟨(xI_ne (Y := 60) rfl rfl c_10), (Or.inr ⟨(xI_ne (Y := 61) rfl rfl c_12), (Or.inr ⟨(xI_ne (Y := 62) rfl rfl c_14), (Or.inr ⟨(xI_ne (Y := 144) rfl rfl c_16), (Or.inl ⟨c_19, (Or.inr ⟨c_20, (Or.inl ⟨c_21, ⟨rfl, rfl⟩⟩)⟩)⟩)⟩)⟩)⟩)⟩)⟩)⟩)⟩)⟩)⟩), wd_t ht hW⟩, hS.F ht⟩) hS.2.2 dX3_join_111
      · have c_21 : p2.toInt ≠ 0 := xI_ne rfl rfl c_21
        refine ic_1 hx hb dX3_join_106 ?_
        refine lv_goto (tgt := 111) hx hb dX3_join_107 rfl ?_
        exact W.iret (v := 1) hx hb hr (fun t ht _ => ⟨⟨1, G, rfl, (P_lJoin_mk ⟨hB_G, hF, (Or.inr ⟨(xI_ne (Y := 42) rfl rfl c_1), (Or.inr ⟨(xI_ne (Y := 43) rfl rfl c_3), (Or.inr ⟨(xI_ne (Y := 45) rfl rfl c_5), (Or.inr ⟨(xI_ne (Y := 47) rfl rfl c_7), (Or.inr ⟨(xI_ne (Y := 60) rfl rfl c_10), (Or.inr ⟨(xI_ne (Y := 61) rfl rfl c_12), (Or.inr ⟨(xI_ne (Y := 62) rfl rfl c_14), (Or.inr ⟨(xI_ne (Y := 144) rfl rfl c_16), (Or.inl ⟨c_19, (Or.inr ⟨c_20, (Or.inr ⟨c_21, ⟨rfl, rfl⟩⟩)⟩)⟩)⟩)⟩)⟩)⟩)⟩)⟩)⟩)⟩)⟩), wd_t ht hW⟩, hS.F ht⟩) hS.2.2 dX3_join_111
  refine lv_lookup (tgt := 169) hx hb dX3_join_1 (by decide) (off := 168) (by show Op.lookupswitch.offset [(42, 152), (43, 144), (45, 148), (47, 156), (60, 111), (61, 133), (62, 122), (144, 83), (145, 97)] _ _ = _; have c_1 := xI_ne (Y := 42) rfl rfl c_1; have c_3 := xI_ne (Y := 43) rfl rfl c_3; have c_5 := xI_ne (Y := 45) rfl rfl c_5; have c_7 := xI_ne (Y := 47) rfl rfl c_7; have c_10 := xI_ne (Y := 60) rfl rfl c_10; have c_12 := xI_ne (Y := 61) rfl rfl c_12; have c_14 := xI_ne (Y := 62) rfl rfl c_14; have c_16 := xI_ne (Y := 144) rfl rfl c_16; have c_19 := xI_ne (Y := 145) rfl rfl c_19; rw [Op.lookupswitch.offset_cons, if_neg (by omega), Op.lookupswitch.offset_cons, if_neg (by omega), Op.lookupswitch.offset_cons, if_neg (by omega), Op.lookupswitch.offset_cons, if_neg (by omega), Op.lookupswitch.offset_cons, if_neg (by omega), Op.lookupswitch.offset_cons, if_neg (by omega), Op.lookupswitch.offset_cons, if_neg (by omega), Op.lookupswitch.offset_cons, if_neg (by omega), Op.lookupswitch.offset_cons, if_neg (by omega), Op.lookupswitch.offset_nil]) (by decide) ?_
  have c_1 := xI_ne (Y := 42) rfl rfl c_1
  have c_3 := xI_ne (Y := 43) rfl rfl c_3
  have c_5 := xI_ne (Y := 45) rfl rfl c_5
  have c_7 := xI_ne (Y := 47) rfl rfl c_7
  have c_10 := xI_ne (Y := 60) rfl rfl c_10
  have c_12 := xI_ne (Y := 61) rfl rfl c_12
  have c_14 := xI_ne (Y := 62) rfl rfl c_14
  have c_16 := xI_ne (Y := 144) rfl rfl c_16
  have c_19 := xI_ne (Y := 145) rfl rfl c_19
  refine lv_iload_n hx hb dX3_join_169 rfl (lv_at hl 2 rfl) ?_
  refine lv_if_ne (tgt := 177) hx hb dX3_join_170 rfl (fun c_22 => ?_) (fun c_22 => ?_)
  · have c_22 : p2.toInt ≠ 0 := xI_ne rfl rfl c_22
    refine lv_iload_n hx hb dX3_join_177 rfl (lv_at hl 1 rfl) ?_
    refine lv_iload_n hx hb dX3_join_178 rfl (lv_at hl 2 rfl) ?_
    refine lv_irem hx hb dX3_join_179 (fun q => by have q := xI_eq (Y := 0) rfl rfl q; omega) ?_
    refine lv_topi (fun y_23 ey_23 => ?_)
    exact W.iret (v := y_23) hx hb hr (fun t ht _ => ⟨⟨y_23, G, rfl, (P_lJoin_mk ⟨hB_G, hF, (Or.inr ⟨c_1, (Or.inr ⟨c_3, (Or.inr ⟨c_5, (Or.inr ⟨c_7, (Or.inr ⟨c_10, (Or.inr ⟨c_12, (Or.inr ⟨c_14, (Or.inr ⟨c_16, (Or.inr ⟨c_19, (Or.inr ⟨c_22, ⟨y_23, ey_23, ⟨rfl, rfl⟩⟩⟩)⟩)⟩)⟩)⟩)⟩)⟩)⟩)⟩)⟩)⟩), wd_t ht hW⟩, hS.F ht⟩) hS.2.2 dX3_join_180
  · have c_22 : p2.toInt = 0 := xI_eq rfl rfl c_22
    refine ic_0 hx hb dX3_join_173 ?_
    refine lv_goto (tgt := 180) hx hb dX3_join_174 rfl ?_
    exact W.iret (v := 0) hx hb hr (fun t ht _ => ⟨⟨0, G, rfl, (P_lJoin_mk ⟨hB_G, hF, (Or.inr ⟨c_1, (Or.inr ⟨c_3, (Or.inr ⟨c_5, (Or.inr ⟨c_7, (Or.inr ⟨c_10, (Or.inr ⟨c_12, (Or.inr ⟨c_14, (Or.inr ⟨c_16, (Or.inr ⟨c_19, (Or.inl ⟨c_22, ⟨rfl, rfl⟩⟩)⟩)⟩)⟩)⟩)⟩)⟩)⟩)⟩)⟩)⟩), wd_t ht hW⟩, hS.F ht⟩) hS.2.2 dX3_join_180
