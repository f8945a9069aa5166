theorem m133 : Cond.initialized RJ0 ∈ gd := gdc_1_1 1 rfl gw_initialized
theorem m134 : Cond.initialized RJ1 ∈ gd := gdc_1_1 2 rfl gw_initialized
theorem m135 : Cond.initialized RJ3 ∈ gd := gdc_1_1 3 rfl gw_initialized
theorem m656 : Cond.instanceMethod yJ0_length_8abf5 ∈ gd := gdc_3_3 12 rfl gw_instanceMethod
theorem m657 : Cond.selects "java/lang/String" yJ0_length_8abf5 yJ0_length_8abf5 ∈ gd := gdc_3_3 13 rfl gw_selects
theorem m658 : Cond.code yJ0_length_8abf5 cJ0_length_8abf5 1 (some .int) ∈ gd := gdc_3_3 14 rfl gw_code
theorem m659 : Cond.methodLink "java/lang/String" 335 yJ0_coder_7d493 ∈ gd := gdc_3_3 15 rfl gw_methodLink
theorem m660 : Cond.instanceMethod yJ0_coder_7d493 ∈ gd := gdc_3_4 0 rfl gw_instanceMethod
theorem m661 : Cond.selects "java/lang/String" yJ0_coder_7d493 yJ0_coder_7d493 ∈ gd := gdc_3_4 1 rfl gw_selects
theorem m662 : Cond.code yJ0_coder_7d493 cJ0_coder_7d493 1 (some .byte) ∈ gd := gdc_3_4 2 rfl gw_code
theorem m663 : Cond.fieldLink "java/lang/String" 38 "java/lang/String" "COMPACT_STRINGS" "Z" ∈ gd := gdc_3_4 3 rfl gw_fieldLink
theorem m669 : Cond.methodLink "java/lang/String" 492 yJ0_isLatin1_aae02 ∈ gd := gdc_3_4 9 rfl gw_methodLink
theorem m670 : Cond.instanceMethod yJ0_isLatin1_aae02 ∈ gd := gdc_3_4 10 rfl gw_instanceMethod
theorem m671 : Cond.selects "java/lang/String" yJ0_isLatin1_aae02 yJ0_isLatin1_aae02 ∈ gd := gdc_3_4 11 rfl gw_selects
theorem m672 : Cond.code yJ0_isLatin1_aae02 cJ0_isLatin1_aae02 1 (some .boolean) ∈ gd := gdc_3_4 12 rfl gw_code
theorem m673 : Cond.methodLink "java/lang/String" 495 yJ1_charAt_3b067 ∈ gd := gdc_3_4 13 rfl gw_methodLink
theorem m674 : Cond.static yJ1_charAt_3b067 ∈ gd := gdc_3_4 14 rfl gw_static
theorem m675 : Cond.code yJ1_charAt_3b067 cJ1_charAt_3b067 2 (some .char) ∈ gd := gdc_3_4 15 rfl gw_code
theorem m676 : Cond.methodLink "java/lang/StringLatin1" 9 yJ0_checkIndex_df160 ∈ gd := gdc_3_5 0 rfl gw_methodLink
theorem m677 : Cond.static yJ0_checkIndex_df160 ∈ gd := gdc_3_5 1 rfl gw_static
theorem m678 : Cond.code yJ0_checkIndex_df160 cJ0_checkIndex_df160 2 none ∈ gd := gdc_3_5 2 rfl gw_code
theorem m679 : Cond.fieldLink "java/lang/String" 1053 "jdk/internal/util/Preconditions" "SIOOBE_FORMATTER" "Ljava/util/function/BiFunction;" ∈ gd := gdc_3_5 3 rfl gw_fieldLink
theorem m681 : Cond.methodLink "java/lang/String" 1059 yJ3_checkIndex_8e157 ∈ gd := gdc_3_5 5 rfl gw_methodLink
theorem m682 : Cond.static yJ3_checkIndex_8e157 ∈ gd := gdc_3_5 6 rfl gw_static
theorem m683 : Cond.code yJ3_checkIndex_8e157 cJ3_checkIndex_8e157 3 (some .int) ∈ gd := gdc_3_5 7 rfl gw_code
theorem m716 : Cond.methodLink "java/lang/String" 633 yJ0_indexOf_7cf53 ∈ gd := gdc_3_7 8 rfl gw_methodLink
theorem m717 : Cond.instanceMethod yJ0_indexOf_7cf53 ∈ gd := gdc_3_7 9 rfl gw_instanceMethod
theorem m718 : Cond.selects "java/lang/String" yJ0_indexOf_7cf53 yJ0_indexOf_7cf53 ∈ gd := gdc_3_7 10 rfl gw_selects
theorem m719 : Cond.code yJ0_indexOf_7cf53 cJ0_indexOf_7cf53 3 (some .int) ∈ gd := gdc_3_7 11 rfl gw_code
theorem m720 : Cond.methodLink "java/lang/String" 505 yJ0_length_8abf5 ∈ gd := gdc_3_7 12 rfl gw_methodLink
theorem m721 : Cond.methodLink "java/lang/String" 637 yJ1_indexOf_4cfef ∈ gd := gdc_3_7 13 rfl gw_methodLink
theorem m722 : Cond.static yJ1_indexOf_4cfef ∈ gd := gdc_3_7 14 rfl gw_static
theorem m723 : Cond.code yJ1_indexOf_4cfef cJ1_indexOf_4cfef 4 (some .int) ∈ gd := gdc_3_7 15 rfl gw_code
theorem m724 : Cond.methodLink "java/lang/StringLatin1" 88 yJ1_canEncode_9a6ad ∈ gd := gdc_3_8 0 rfl gw_methodLink
theorem m725 : Cond.static yJ1_canEncode_9a6ad ∈ gd := gdc_3_8 1 rfl gw_static
theorem m726 : Cond.code yJ1_canEncode_9a6ad cJ1_canEncode_9a6ad 1 (some .boolean) ∈ gd := gdc_3_8 2 rfl gw_code
theorem m727 : Cond.methodLink "java/lang/StringLatin1" 92 Lib.Math.max.name ∈ gd := gdc_3_8 3 rfl gw_methodLink
theorem m728 : Cond.static Lib.Math.max.name ∈ gd := gdc_3_8 4 rfl gw_static
theorem m729 : Cond.code Lib.Math.max.name Lib.Math.max.code 2 (some .int) ∈ gd := gdc_3_8 5 rfl gw_code
theorem m730 : Cond.methodLink "java/lang/StringLatin1" 38 Lib.Math.min.name ∈ gd := gdc_3_8 6 rfl gw_methodLink
theorem m731 : Cond.methodLink "java/lang/StringLatin1" 95 yJ1_indexOfChar_4cfef ∈ gd := gdc_3_8 7 rfl gw_methodLink
theorem m732 : Cond.static yJ1_indexOfChar_4cfef ∈ gd := gdc_3_8 8 rfl gw_static
theorem m733 : Cond.code yJ1_indexOfChar_4cfef cJ1_indexOfChar_4cfef 6 (some .int) ∈ gd := gdc_3_8 9 rfl gw_code
theorem m2081 : Cond.fieldLink "java/lang/String" 9 "java/lang/String" "value" "[B" ∈ gd := gdc_9_2 13 rfl gw_fieldLink
theorem m2082 : Cond.fieldLink "java/lang/String" 15 "java/lang/String" "coder" "B" ∈ gd := gdc_9_2 14 rfl gw_fieldLink
def rbJ0_charAt_5068e_0 : List (Nat × List Nat) := [(0, [42]), (1, [182, 1, 236]), (4, [153, 0, 12]), (7, [42]), (8, [180, 0, 9]), (11, [27]), (12, [184, 1, 239]), (15, [172])]
theorem rcJ0_charAt_5068e_0 : dgo (lb cJ0_charAt_5068e) 0 rbJ0_charAt_5068e_0 = true := by decide +kernel
theorem dJ0_charAt_5068e_0 : decode cJ0_charAt_5068e 0 = .ok (.aload_n 0, 1) := dk_42 (dw rcJ0_charAt_5068e_0 0 rfl)
theorem dJ0_charAt_5068e_1 : decode cJ0_charAt_5068e 1 = .ok (.invokevirtual 492, 3) := dk_182 (dw rcJ0_charAt_5068e_0 1 rfl) rfl
theorem dJ0_charAt_5068e_4 : decode cJ0_charAt_5068e 4 = .ok (.ifCond .eq 12, 3) := dk_153 (dw rcJ0_charAt_5068e_0 2 rfl) rfl
theorem dJ0_charAt_5068e_7 : decode cJ0_charAt_5068e 7 = .ok (.aload_n 0, 1) := dk_42 (dw rcJ0_charAt_5068e_0 3 rfl)
theorem dJ0_charAt_5068e_8 : decode cJ0_charAt_5068e 8 = .ok (.getfield 9, 3) := dk_180 (dw rcJ0_charAt_5068e_0 4 rfl) rfl
theorem dJ0_charAt_5068e_11 : decode cJ0_charAt_5068e 11 = .ok (.iload_n 1, 1) := dk_27 (dw rcJ0_charAt_5068e_0 5 rfl)
theorem dJ0_charAt_5068e_12 : decode cJ0_charAt_5068e 12 = .ok (.invokestatic 495, 3) := dk_184 (dw rcJ0_charAt_5068e_0 6 rfl) rfl
theorem dJ0_charAt_5068e_15 : decode cJ0_charAt_5068e 15 = .ok (.ireturn, 1) := dk_172 (dw rcJ0_charAt_5068e_0 7 rfl)
def rbJ0_checkIndex_df160_0 : List (Nat × List Nat) := [(0, [26]), (1, [27]), (2, [178, 4, 29]), (5, [184, 4, 35]), (8, [87]), (9, [177])]
theorem rcJ0_checkIndex_df160_0 : dgo (lb cJ0_checkIndex_df160) 0 rbJ0_checkIndex_df160_0 = true := by decide +kernel
theorem dJ0_checkIndex_df160_0 : decode cJ0_checkIndex_df160 0 = .ok (.iload_n 0, 1) := dk_26 (dw rcJ0_checkIndex_df160_0 0 rfl)
theorem dJ0_checkIndex_df160_1 : decode cJ0_checkIndex_df160 1 = .ok (.iload_n 1, 1) := dk_27 (dw rcJ0_checkIndex_df160_0 1 rfl)
theorem dJ0_checkIndex_df160_2 : decode cJ0_checkIndex_df160 2 = .ok (.getstatic 1053, 3) := dk_178 (dw rcJ0_checkIndex_df160_0 2 rfl) rfl
theorem dJ0_checkIndex_df160_5 : decode cJ0_checkIndex_df160 5 = .ok (.invokestatic 1059, 3) := dk_184 (dw rcJ0_checkIndex_df160_0 3 rfl) rfl
theorem dJ0_checkIndex_df160_8 : decode cJ0_checkIndex_df160 8 = .ok (.pop, 1) := dk_87 (dw rcJ0_checkIndex_df160_0 4 rfl)
theorem dJ0_checkIndex_df160_9 : decode cJ0_checkIndex_df160 9 = .ok (.return_, 1) := dk_177 (dw rcJ0_checkIndex_df160_0 5 rfl)
def rbJ0_coder_7d493_0 : List (Nat × List Nat) := [(0, [178, 0, 38]), (3, [153, 0, 10]), (6, [42]), (7, [180, 0, 15]), (10, [167, 0, 4]), (14, [172])]
theorem rcJ0_coder_7d493_0 : dgo (lb cJ0_coder_7d493) 0 rbJ0_coder_7d493_0 = true := by decide +kernel
theorem dJ0_coder_7d493_0 : decode cJ0_coder_7d493 0 = .ok (.getstatic 38, 3) := dk_178 (dw rcJ0_coder_7d493_0 0 rfl) rfl
theorem dJ0_coder_7d493_3 : decode cJ0_coder_7d493 3 = .ok (.ifCond .eq 10, 3) := dk_153 (dw rcJ0_coder_7d493_0 1 rfl) rfl
theorem dJ0_coder_7d493_6 : decode cJ0_coder_7d493 6 = .ok (.aload_n 0, 1) := dk_42 (dw rcJ0_coder_7d493_0 2 rfl)
theorem dJ0_coder_7d493_7 : decode cJ0_coder_7d493 7 = .ok (.getfield 15, 3) := dk_180 (dw rcJ0_coder_7d493_0 3 rfl) rfl
theorem dJ0_coder_7d493_10 : decode cJ0_coder_7d493 10 = .ok (.goto 4, 3) := dk_167 (dw rcJ0_coder_7d493_0 4 rfl) rfl
theorem dJ0_coder_7d493_14 : decode cJ0_coder_7d493 14 = .ok (.ireturn, 1) := dk_172 (dw rcJ0_coder_7d493_0 5 rfl)
def rbJ0_indexOf_0f7a4_0 : List (Nat × List Nat) := [(0, [42]), (1, [27]), (2, [3]), (3, [182, 2, 121]), (6, [172])]
theorem rcJ0_indexOf_0f7a4_0 : dgo (lb cJ0_indexOf_0f7a4) 0 rbJ0_indexOf_0f7a4_0 = true := by decide +kernel
theorem dJ0_indexOf_0f7a4_0 : decode cJ0_indexOf_0f7a4 0 = .ok (.aload_n 0, 1) := dk_42 (dw rcJ0_indexOf_0f7a4_0 0 rfl)
theorem dJ0_indexOf_0f7a4_1 : decode cJ0_indexOf_0f7a4 1 = .ok (.iload_n 1, 1) := dk_27 (dw rcJ0_indexOf_0f7a4_0 1 rfl)
theorem dJ0_indexOf_0f7a4_2 : decode cJ0_indexOf_0f7a4 2 = .ok (.iconst 0, 1) := dk_3 (dw rcJ0_indexOf_0f7a4_0 2 rfl)
theorem dJ0_indexOf_0f7a4_3 : decode cJ0_indexOf_0f7a4 3 = .ok (.invokevirtual 633, 3) := dk_182 (dw rcJ0_indexOf_0f7a4_0 3 rfl) rfl
theorem dJ0_indexOf_0f7a4_6 : decode cJ0_indexOf_0f7a4 6 = .ok (.ireturn, 1) := dk_172 (dw rcJ0_indexOf_0f7a4_0 4 rfl)
def rbJ0_indexOf_7cf53_0 : List (Nat × List Nat) := [(0, [42]), (1, [182, 1, 236]), (4, [153, 0, 19]), (7, [42]), (8, [180, 0, 9]), (11, [27]), (12, [28]), (13, [42]), (14, [182, 1, 249]), (17, [184, 2, 125]), (20, [167, 0, 16]), (36, [172])]
theorem rcJ0_indexOf_7cf53_0 : dgo (lb cJ0_indexOf_7cf53) 0 rbJ0_indexOf_7cf53_0 = true := by decide +kernel
theorem dJ0_indexOf_7cf53_0 : decode cJ0_indexOf_7cf53 0 = .ok (.aload_n 0, 1) := dk_42 (dw rcJ0_indexOf_7cf53_0 0 rfl)
theorem dJ0_indexOf_7cf53_1 : decode cJ0_indexOf_7cf53 1 = .ok (.invokevirtual 492, 3) := dk_182 (dw rcJ0_indexOf_7cf53_0 1 rfl) rfl
theorem dJ0_indexOf_7cf53_4 : decode cJ0_indexOf_7cf53 4 = .ok (.ifCond .eq 19, 3) := dk_153 (dw rcJ0_indexOf_7cf53_0 2 rfl) rfl
theorem dJ0_indexOf_7cf53_7 : decode cJ0_indexOf_7cf53 7 = .ok (.aload_n 0, 1) := dk_42 (dw rcJ0_indexOf_7cf53_0 3 rfl)
theorem dJ0_indexOf_7cf53_8 : decode cJ0_indexOf_7cf53 8 = .ok (.getfield 9, 3) := dk_180 (dw rcJ0_indexOf_7cf53_0 4 rfl) rfl
theorem dJ0_indexOf_7cf53_11 : decode cJ0_indexOf_7cf53 11 = .ok (.iload_n 1, 1) := dk_27 (dw rcJ0_indexOf_7cf53_0 5 rfl)
theorem dJ0_indexOf_7cf53_12 : decode cJ0_indexOf_7cf53 12 = .ok (.iload_n 2, 1) := dk_28 (dw rcJ0_indexOf_7cf53_0 6 rfl)
theorem dJ0_indexOf_7cf53_13 : decode cJ0_indexOf_7cf53 13 = .ok (.aload_n 0, 1) := dk_42 (dw rcJ0_indexOf_7cf53_0 7 rfl)
theorem dJ0_indexOf_7cf53_14 : decode cJ0_indexOf_7cf53 14 = .ok (.invokevirtual 505, 3) := dk_182 (dw rcJ0_indexOf_7cf53_0 8 rfl) rfl
theorem dJ0_indexOf_7cf53_17 : decode cJ0_indexOf_7cf53 17 = .ok (.invokestatic 637, 3) := dk_184 (dw rcJ0_indexOf_7cf53_0 9 rfl) rfl
theorem dJ0_indexOf_7cf53_20 : decode cJ0_indexOf_7cf53 20 = .ok (.goto 16, 3) := dk_167 (dw rcJ0_indexOf_7cf53_0 10 rfl) rfl
theorem dJ0_indexOf_7cf53_36 : decode cJ0_indexOf_7cf53 36 = .ok (.ireturn, 1) := dk_172 (dw rcJ0_indexOf_7cf53_0 11 rfl)
def rbJ0_isLatin1_aae02_0 : List (Nat × List Nat) := [(0, [178, 0, 38]), (3, [153, 0, 14]), (6, [42]), (7, [180, 0, 15]), (10, [154, 0, 7]), (13, [4]), (14, [167, 0, 4]), (18, [172])]
theorem rcJ0_isLatin1_aae02_0 : dgo (lb cJ0_isLatin1_aae02) 0 rbJ0_isLatin1_aae02_0 = true := by decide +kernel
theorem dJ0_isLatin1_aae02_0 : decode cJ0_isLatin1_aae02 0 = .ok (.getstatic 38, 3) := dk_178 (dw rcJ0_isLatin1_aae02_0 0 rfl) rfl
theorem dJ0_isLatin1_aae02_3 : decode cJ0_isLatin1_aae02 3 = .ok (.ifCond .eq 14, 3) := dk_153 (dw rcJ0_isLatin1_aae02_0 1 rfl) rfl
theorem dJ0_isLatin1_aae02_6 : decode cJ0_isLatin1_aae02 6 = .ok (.aload_n 0, 1) := dk_42 (dw rcJ0_isLatin1_aae02_0 2 rfl)
theorem dJ0_isLatin1_aae02_7 : decode cJ0_isLatin1_aae02 7 = .ok (.getfield 15, 3) := dk_180 (dw rcJ0_isLatin1_aae02_0 3 rfl) rfl
theorem dJ0_isLatin1_aae02_10 : decode cJ0_isLatin1_aae02 10 = .ok (.ifCond .ne 7, 3) := dk_154 (dw rcJ0_isLatin1_aae02_0 4 rfl) rfl
theorem dJ0_isLatin1_aae02_13 : decode cJ0_isLatin1_aae02 13 = .ok (.iconst 1, 1) := dk_4 (dw rcJ0_isLatin1_aae02_0 5 rfl)
theorem dJ0_isLatin1_aae02_14 : decode cJ0_isLatin1_aae02 14 = .ok (.goto 4, 3) := dk_167 (dw rcJ0_isLatin1_aae02_0 6 rfl) rfl
theorem dJ0_isLatin1_aae02_18 : decode cJ0_isLatin1_aae02 18 = .ok (.ireturn, 1) := dk_172 (dw rcJ0_isLatin1_aae02_0 7 rfl)
def rbJ0_length_8abf5_0 : List (Nat × List Nat) := [(0, [42]), (1, [180, 0, 9]), (4, [190]), (5, [42]), (6, [182, 1, 79]), (9, [122]), (10, [172])]
theorem rcJ0_length_8abf5_0 : dgo (lb cJ0_length_8abf5) 0 rbJ0_length_8abf5_0 = true := by decide +kernel
theorem dJ0_length_8abf5_0 : decode cJ0_length_8abf5 0 = .ok (.aload_n 0, 1) := dk_42 (dw rcJ0_length_8abf5_0 0 rfl)
theorem dJ0_length_8abf5_1 : decode cJ0_length_8abf5 1 = .ok (.getfield 9, 3) := dk_180 (dw rcJ0_length_8abf5_0 1 rfl) rfl
theorem dJ0_length_8abf5_4 : decode cJ0_length_8abf5 4 = .ok (.arraylength, 1) := dk_190 (dw rcJ0_length_8abf5_0 2 rfl)
theorem dJ0_length_8abf5_5 : decode cJ0_length_8abf5 5 = .ok (.aload_n 0, 1) := dk_42 (dw rcJ0_length_8abf5_0 3 rfl)
theorem dJ0_length_8abf5_6 : decode cJ0_length_8abf5 6 = .ok (.invokevirtual 335, 3) := dk_182 (dw rcJ0_length_8abf5_0 4 rfl) rfl
theorem dJ0_length_8abf5_9 : decode cJ0_length_8abf5 9 = .ok (.ishr, 1) := dk_122 (dw rcJ0_length_8abf5_0 5 rfl)
theorem dJ0_length_8abf5_10 : decode cJ0_length_8abf5 10 = .ok (.ireturn, 1) := dk_172 (dw rcJ0_length_8abf5_0 6 rfl)
def rbJ1_canEncode_9a6ad_0 : List (Nat × List Nat) := [(0, [26]), (1, [155, 0, 14]), (4, [26]), (5, [17, 0, 255]), (8, [163, 0, 7]), (11, [4]), (12, [167, 0, 4]), (15, [3]), (16, [172])]
theorem rcJ1_canEncode_9a6ad_0 : dgo (lb cJ1_canEncode_9a6ad) 0 rbJ1_canEncode_9a6ad_0 = true := by decide +kernel
theorem dJ1_canEncode_9a6ad_0 : decode cJ1_canEncode_9a6ad 0 = .ok (.iload_n 0, 1) := dk_26 (dw rcJ1_canEncode_9a6ad_0 0 rfl)
theorem dJ1_canEncode_9a6ad_1 : decode cJ1_canEncode_9a6ad 1 = .ok (.ifCond .lt 14, 3) := dk_155 (dw rcJ1_canEncode_9a6ad_0 1 rfl) rfl
theorem dJ1_canEncode_9a6ad_4 : decode cJ1_canEncode_9a6ad 4 = .ok (.iload_n 0, 1) := dk_26 (dw rcJ1_canEncode_9a6ad_0 2 rfl)
theorem dJ1_canEncode_9a6ad_5 : decode cJ1_canEncode_9a6ad 5 = .ok (.sipush 255, 3) := dk_17 (dw rcJ1_canEncode_9a6ad_0 3 rfl) rfl
theorem dJ1_canEncode_9a6ad_8 : decode cJ1_canEncode_9a6ad 8 = .ok (.if_icmp .gt 7, 3) := dk_163 (dw rcJ1_canEncode_9a6ad_0 4 rfl) rfl
theorem dJ1_canEncode_9a6ad_11 : decode cJ1_canEncode_9a6ad 11 = .ok (.iconst 1, 1) := dk_4 (dw rcJ1_canEncode_9a6ad_0 5 rfl)
theorem dJ1_canEncode_9a6ad_12 : decode cJ1_canEncode_9a6ad 12 = .ok (.goto 4, 3) := dk_167 (dw rcJ1_canEncode_9a6ad_0 6 rfl) rfl
theorem dJ1_canEncode_9a6ad_15 : decode cJ1_canEncode_9a6ad 15 = .ok (.iconst 0, 1) := dk_3 (dw rcJ1_canEncode_9a6ad_0 7 rfl)
theorem dJ1_canEncode_9a6ad_16 : decode cJ1_canEncode_9a6ad 16 = .ok (.ireturn, 1) := dk_172 (dw rcJ1_canEncode_9a6ad_0 8 rfl)
def rbJ1_charAt_3b067_0 : List (Nat × List Nat) := [(0, [27]), (1, [42]), (2, [190]), (3, [184, 0, 9]), (6, [42]), (7, [27]), (8, [51]), (9, [17, 0, 255]), (12, [126]), (13, [146]), (14, [172])]
theorem rcJ1_charAt_3b067_0 : dgo (lb cJ1_charAt_3b067) 0 rbJ1_charAt_3b067_0 = true := by decide +kernel
theorem dJ1_charAt_3b067_0 : decode cJ1_charAt_3b067 0 = .ok (.iload_n 1, 1) := dk_27 (dw rcJ1_charAt_3b067_0 0 rfl)
theorem dJ1_charAt_3b067_1 : decode cJ1_charAt_3b067 1 = .ok (.aload_n 0, 1) := dk_42 (dw rcJ1_charAt_3b067_0 1 rfl)
theorem dJ1_charAt_3b067_2 : decode cJ1_charAt_3b067 2 = .ok (.arraylength, 1) := dk_190 (dw rcJ1_charAt_3b067_0 2 rfl)
theorem dJ1_charAt_3b067_3 : decode cJ1_charAt_3b067 3 = .ok (.invokestatic 9, 3) := dk_184 (dw rcJ1_charAt_3b067_0 3 rfl) rfl
theorem dJ1_charAt_3b067_6 : decode cJ1_charAt_3b067 6 = .ok (.aload_n 0, 1) := dk_42 (dw rcJ1_charAt_3b067_0 4 rfl)
theorem dJ1_charAt_3b067_7 : decode cJ1_charAt_3b067 7 = .ok (.iload_n 1, 1) := dk_27 (dw rcJ1_charAt_3b067_0 5 rfl)
theorem dJ1_charAt_3b067_8 : decode cJ1_charAt_3b067 8 = .ok (.baload, 1) := dk_51 (dw rcJ1_charAt_3b067_0 6 rfl)
theorem dJ1_charAt_3b067_9 : decode cJ1_charAt_3b067 9 = .ok (.sipush 255, 3) := dk_17 (dw rcJ1_charAt_3b067_0 7 rfl) rfl
theorem dJ1_charAt_3b067_12 : decode cJ1_charAt_3b067 12 = .ok (.iand, 1) := dk_126 (dw rcJ1_charAt_3b067_0 8 rfl)
theorem dJ1_charAt_3b067_13 : decode cJ1_charAt_3b067 13 = .ok (.i2c, 1) := dk_146 (dw rcJ1_charAt_3b067_0 9 rfl)
theorem dJ1_charAt_3b067_14 : decode cJ1_charAt_3b067 14 = .ok (.ireturn, 1) := dk_172 (dw rcJ1_charAt_3b067_0 10 rfl)
def rbJ1_indexOfChar_4cfef_0 : List (Nat × List Nat) := [(0, [27]), (1, [145]), (2, [54, 4]), (4, [28]), (5, [54, 5]), (7, [21, 5]), (9, [29]), (10, [162, 0, 21]), (13, [42]), (14, [21, 5]), (16, [51]), (17, [21, 4]), (19, [160, 0, 6]), (22, [21, 5]), (24, [172]), (25, [132, 5, 1]), (28, [167, 255, 235]), (31, [2]), (32, [172])]
theorem rcJ1_indexOfChar_4cfef_0 : dgo (lb cJ1_indexOfChar_4cfef) 0 rbJ1_indexOfChar_4cfef_0 = true := by decide +kernel
theorem dJ1_indexOfChar_4cfef_0 : decode cJ1_indexOfChar_4cfef 0 = .ok (.iload_n 1, 1) := dk_27 (dw rcJ1_indexOfChar_4cfef_0 0 rfl)
theorem dJ1_indexOfChar_4cfef_1 : decode cJ1_indexOfChar_4cfef 1 = .ok (.i2b, 1) := dk_145 (dw rcJ1_indexOfChar_4cfef_0 1 rfl)
theorem dJ1_indexOfChar_4cfef_2 : decode cJ1_indexOfChar_4cfef 2 = .ok (.istore 4, 2) := dk_54 (dw rcJ1_indexOfChar_4cfef_0 2 rfl)
theorem dJ1_indexOfChar_4cfef_4 : decode cJ1_indexOfChar_4cfef 4 = .ok (.iload_n 2, 1) := dk_28 (dw rcJ1_indexOfChar_4cfef_0 3 rfl)
theorem dJ1_indexOfChar_4cfef_5 : decode cJ1_indexOfChar_4cfef 5 = .ok (.istore 5, 2) := dk_54 (dw rcJ1_indexOfChar_4cfef_0 4 rfl)
theorem dJ1_indexOfChar_4cfef_7 : decode cJ1_indexOfChar_4cfef 7 = .ok (.iload 5, 2) := dk_21 (dw rcJ1_indexOfChar_4cfef_0 5 rfl)
theorem dJ1_indexOfChar_4cfef_9 : decode cJ1_indexOfChar_4cfef 9 = .ok (.iload_n 3, 1) := dk_29 (dw rcJ1_indexOfChar_4cfef_0 6 rfl)
theorem dJ1_indexOfChar_4cfef_10 : decode cJ1_indexOfChar_4cfef 10 = .ok (.if_icmp .ge 21, 3) := dk_162 (dw rcJ1_indexOfChar_4cfef_0 7 rfl) rfl
theorem dJ1_indexOfChar_4cfef_13 : decode cJ1_indexOfChar_4cfef 13 = .ok (.aload_n 0, 1) := dk_42 (dw rcJ1_indexOfChar_4cfef_0 8 rfl)
theorem dJ1_indexOfChar_4cfef_14 : decode cJ1_indexOfChar_4cfef 14 = .ok (.iload 5, 2) := dk_21 (dw rcJ1_indexOfChar_4cfef_0 9 rfl)
theorem dJ1_indexOfChar_4cfef_16 : decode cJ1_indexOfChar_4cfef 16 = .ok (.baload, 1) := dk_51 (dw rcJ1_indexOfChar_4cfef_0 10 rfl)
theorem dJ1_indexOfChar_4cfef_17 : decode cJ1_indexOfChar_4cfef 17 = .ok (.iload 4, 2) := dk_21 (dw rcJ1_indexOfChar_4cfef_0 11 rfl)
theorem dJ1_indexOfChar_4cfef_19 : decode cJ1_indexOfChar_4cfef 19 = .ok (.if_icmp .ne 6, 3) := dk_160 (dw rcJ1_indexOfChar_4cfef_0 12 rfl) rfl
theorem dJ1_indexOfChar_4cfef_22 : decode cJ1_indexOfChar_4cfef 22 = .ok (.iload 5, 2) := dk_21 (dw rcJ1_indexOfChar_4cfef_0 13 rfl)
theorem dJ1_indexOfChar_4cfef_24 : decode cJ1_indexOfChar_4cfef 24 = .ok (.ireturn, 1) := dk_172 (dw rcJ1_indexOfChar_4cfef_0 14 rfl)
theorem dJ1_indexOfChar_4cfef_25 : decode cJ1_indexOfChar_4cfef 25 = .ok (.iinc 5 1, 3) := dk_132 (dw rcJ1_indexOfChar_4cfef_0 15 rfl) rfl
theorem dJ1_indexOfChar_4cfef_28 : decode cJ1_indexOfChar_4cfef 28 = .ok (.goto (-21), 3) := dk_167 (dw rcJ1_indexOfChar_4cfef_0 16 rfl) rfl
theorem dJ1_indexOfChar_4cfef_31 : decode cJ1_indexOfChar_4cfef 31 = .ok (.iconst (-1), 1) := dk_2 (dw rcJ1_indexOfChar_4cfef_0 17 rfl)
theorem dJ1_indexOfChar_4cfef_32 : decode cJ1_indexOfChar_4cfef 32 = .ok (.ireturn, 1) := dk_172 (dw rcJ1_indexOfChar_4cfef_0 18 rfl)
def rbJ1_indexOf_4cfef_0 : List (Nat × List Nat) := [(0, [27]), (1, [184, 0, 88]), (4, [154, 0, 5]), (7, [2]), (8, [172]), (9, [28]), (10, [3]), (11, [184, 0, 92]), (14, [61]), (15, [29]), (16, [42]), (17, [190]), (18, [184, 0, 38]), (21, [62]), (22, [28]), (23, [29]), (24, [161, 0, 5]), (29, [42]), (30, [27]), (31, [28]), (32, [29]), (33, [184, 0, 95]), (36, [172])]
theorem rcJ1_indexOf_4cfef_0 : dgo (lb cJ1_indexOf_4cfef) 0 rbJ1_indexOf_4cfef_0 = true := by decide +kernel
theorem dJ1_indexOf_4cfef_0 : decode cJ1_indexOf_4cfef 0 = .ok (.iload_n 1, 1) := dk_27 (dw rcJ1_indexOf_4cfef_0 0 rfl)
theorem dJ1_indexOf_4cfef_1 : decode cJ1_indexOf_4cfef 1 = .ok (.invokestatic 88, 3) := dk_184 (dw rcJ1_indexOf_4cfef_0 1 rfl) rfl
theorem dJ1_indexOf_4cfef_4 : decode cJ1_indexOf_4cfef 4 = .ok (.ifCond .ne 5, 3) := dk_154 (dw rcJ1_indexOf_4cfef_0 2 rfl) rfl
theorem dJ1_indexOf_4cfef_7 : decode cJ1_indexOf_4cfef 7 = .ok (.iconst (-1), 1) := dk_2 (dw rcJ1_indexOf_4cfef_0 3 rfl)
theorem dJ1_indexOf_4cfef_8 : decode cJ1_indexOf_4cfef 8 = .ok (.ireturn, 1) := dk_172 (dw rcJ1_indexOf_4cfef_0 4 rfl)
theorem dJ1_indexOf_4cfef_9 : decode cJ1_indexOf_4cfef 9 = .ok (.iload_n 2, 1) := dk_28 (dw rcJ1_indexOf_4cfef_0 5 rfl)
theorem dJ1_indexOf_4cfef_10 : decode cJ1_indexOf_4cfef 10 = .ok (.iconst 0, 1) := dk_3 (dw rcJ1_indexOf_4cfef_0 6 rfl)
theorem dJ1_indexOf_4cfef_11 : decode cJ1_indexOf_4cfef 11 = .ok (.invokestatic 92, 3) := dk_184 (dw rcJ1_indexOf_4cfef_0 7 rfl) rfl
theorem dJ1_indexOf_4cfef_14 : decode cJ1_indexOf_4cfef 14 = .ok (.istore_n 2, 1) := dk_61 (dw rcJ1_indexOf_4cfef_0 8 rfl)
theorem dJ1_indexOf_4cfef_15 : decode cJ1_indexOf_4cfef 15 = .ok (.iload_n 3, 1) := dk_29 (dw rcJ1_indexOf_4cfef_0 9 rfl)
theorem dJ1_indexOf_4cfef_16 : decode cJ1_indexOf_4cfef 16 = .ok (.aload_n 0, 1) := dk_42 (dw rcJ1_indexOf_4cfef_0 10 rfl)
theorem dJ1_indexOf_4cfef_17 : decode cJ1_indexOf_4cfef 17 = .ok (.arraylength, 1) := dk_190 (dw rcJ1_indexOf_4cfef_0 11 rfl)
theorem dJ1_indexOf_4cfef_18 : decode cJ1_indexOf_4cfef 18 = .ok (.invokestatic 38, 3) := dk_184 (dw rcJ1_indexOf_4cfef_0 12 rfl) rfl
theorem dJ1_indexOf_4cfef_21 : decode cJ1_indexOf_4cfef 21 = .ok (.istore_n 3, 1) := dk_62 (dw rcJ1_indexOf_4cfef_0 13 rfl)
theorem dJ1_indexOf_4cfef_22 : decode cJ1_indexOf_4cfef 22 = .ok (.iload_n 2, 1) := dk_28 (dw rcJ1_indexOf_4cfef_0 14 rfl)
theorem dJ1_indexOf_4cfef_23 : decode cJ1_indexOf_4cfef 23 = .ok (.iload_n 3, 1) := dk_29 (dw rcJ1_indexOf_4cfef_0 15 rfl)
theorem dJ1_indexOf_4cfef_24 : decode cJ1_indexOf_4cfef 24 = .ok (.if_icmp .lt 5, 3) := dk_161 (dw rcJ1_indexOf_4cfef_0 16 rfl) rfl
theorem dJ1_indexOf_4cfef_29 : decode cJ1_indexOf_4cfef 29 = .ok (.aload_n 0, 1) := dk_42 (dw rcJ1_indexOf_4cfef_0 17 rfl)
theorem dJ1_indexOf_4cfef_30 : decode cJ1_indexOf_4cfef 30 = .ok (.iload_n 1, 1) := dk_27 (dw rcJ1_indexOf_4cfef_0 18 rfl)
theorem dJ1_indexOf_4cfef_31 : decode cJ1_indexOf_4cfef 31 = .ok (.iload_n 2, 1) := dk_28 (dw rcJ1_indexOf_4cfef_0 19 rfl)
theorem dJ1_indexOf_4cfef_32 : decode cJ1_indexOf_4cfef 32 = .ok (.iload_n 3, 1) := dk_29 (dw rcJ1_indexOf_4cfef_0 20 rfl)
theorem dJ1_indexOf_4cfef_33 : decode cJ1_indexOf_4cfef 33 = .ok (.invokestatic 95, 3) := dk_184 (dw rcJ1_indexOf_4cfef_0 21 rfl) rfl
theorem dJ1_indexOf_4cfef_36 : decode cJ1_indexOf_4cfef 36 = .ok (.ireturn, 1) := dk_172 (dw rcJ1_indexOf_4cfef_0 22 rfl)
def rbJ3_checkIndex_8e157_0 : List (Nat × List Nat) := [(0, [26]), (1, [155, 0, 8]), (4, [26]), (5, [27]), (6, [161, 0, 10]), (16, [26]), (17, [172])]
theorem rcJ3_checkIndex_8e157_0 : dgo (lb cJ3_checkIndex_8e157) 0 rbJ3_checkIndex_8e157_0 = true := by decide +kernel
theorem dJ3_checkIndex_8e157_0 : decode cJ3_checkIndex_8e157 0 = .ok (.iload_n 0, 1) := dk_26 (dw rcJ3_checkIndex_8e157_0 0 rfl)
theorem dJ3_checkIndex_8e157_1 : decode cJ3_checkIndex_8e157 1 = .ok (.ifCond .lt 8, 3) := dk_155 (dw rcJ3_checkIndex_8e157_0 1 rfl) rfl
theorem dJ3_checkIndex_8e157_4 : decode cJ3_checkIndex_8e157 4 = .ok (.iload_n 0, 1) := dk_26 (dw rcJ3_checkIndex_8e157_0 2 rfl)
theorem dJ3_checkIndex_8e157_5 : decode cJ3_checkIndex_8e157 5 = .ok (.iload_n 1, 1) := dk_27 (dw rcJ3_checkIndex_8e157_0 3 rfl)
theorem dJ3_checkIndex_8e157_6 : decode cJ3_checkIndex_8e157 6 = .ok (.if_icmp .lt 10, 3) := dk_161 (dw rcJ3_checkIndex_8e157_0 4 rfl) rfl
theorem dJ3_checkIndex_8e157_16 : decode cJ3_checkIndex_8e157 16 = .ok (.iload_n 0, 1) := dk_26 (dw rcJ3_checkIndex_8e157_0 5 rfl)
theorem dJ3_checkIndex_8e157_17 : decode cJ3_checkIndex_8e157 17 = .ok (.ireturn, 1) := dk_172 (dw rcJ3_checkIndex_8e157_0 6 rfl)
set_option maxHeartbeats 4000000 in
set_option maxRecDepth 100000 in
theorem k_jPreN (l : Launch) (D : va_G) (k : KT) (A : Nat → Prop) (a : Nat → Nat) (z : SK) (G : GS) (p0 : Int32) (p1 : Int32) (hq : 0 ≤ p0.toInt ∧ p0.toInt < p1.toInt) : Met l yJ3_checkIndex_8e157 (WS yJ3_checkIndex_8e157 cJ3_checkIndex_8e157 3 (some .int)) ({ frames := 0, cells := 0, slots := 0, locals := 0 }) (va_Pc [.int p0, .int p1, .null] (cW D k A a z G)) (va_Qi (fun (r : Int32) (G1 : GS) => P_jPreN p0 p1 G r G1) (fun (G1 : GS) t => Wd D k A a G1 t.heap) A) 0 0 A := by
  refine Met.ofW (cc := cJ3_checkIndex_8e157) (maxL := 3) (ret := (some .int)) (by decide) rfl ?_
  intro p e s m args below meth c s₁ B hml hv
  obtain ⟨rfl, hW, hB_G, hK, hZ⟩ := hv
  have hx := B.exec
  have hb := B.bytes
  have hr := B.returns
  have hts := atoms_spec (ws := WS yJ3_checkIndex_8e157 cJ3_checkIndex_8e157 3 (some .int)) B.pre
  have hgd : ∀ w ∈ gd, w ∈ WS yJ3_checkIndex_8e157 cJ3_checkIndex_8e157 3 (some .int) := fun w h => List.mem_cons_of_mem _ h
  have hg : ∀ w ∈ gd, w.before _ s = true := fun w h => hts w (hgd w h)
  have hown : s.vm.findClass RJ3 = some m.cls := findClass_of_methodNamed B.named
  have hS : va_S A s.heap s.heap [] := va_S.rf
  have hF : Fr [] [] G G := Fr.rf
  have hl := lv_entry ([.int p0, .int p1, .null]) (n := 3) (Nat.le_of_ble_eq_true rfl)
  rw [lg_entry_eq]
  generalize (lg_sl ([.int p0, .int p1, .null]) ++ List.replicate (3 - (lg_sl ([.int p0, .int p1, .null])).length) Slot.unset).toArray = ls at hl ⊢
  have hl : lv_has ls 3 [(0, .int p0), (1, .int p1), (2, .null)] := hl
  refine lv_iload_n hx hb dJ3_checkIndex_8e157_0 rfl (lv_at hl 0 rfl) ?_
  refine lv_if_lt (tgt := 9) hx hb dJ3_checkIndex_8e157_1 rfl (fun c_1 => ?_) (fun c_1 => ?_)
  · have c_1 : p0.toInt < 0 := xI_lt rfl rfl c_1
    exfalso; omega
  · have c_1 : 0 ≤ p0.toInt := xI_nlt rfl rfl c_1
    refine lv_iload_n hx hb dJ3_checkIndex_8e157_4 rfl (lv_at hl 0 rfl) ?_
    refine lv_iload_n hx hb dJ3_checkIndex_8e157_5 rfl (lv_at hl 1 rfl) ?_
    refine lv_icmp_lt (tgt := 16) hx hb dJ3_checkIndex_8e157_6 rfl (fun c_2 => ?_) (fun c_2 => ?_)
    · have c_2 : p0.toInt < p1.toInt := xI_lt rfl rfl c_2
      refine lv_iload_n hx hb dJ3_checkIndex_8e157_16 rfl (lv_at hl 0 rfl) ?_
      exact W.iret (v := p0) hx hb hr (fun t ht _ => ⟨⟨p0, G, rfl, (P_jPreN_mk ⟨hB_G, hF, ⟨c_1, ⟨c_2, ⟨rfl, rfl⟩⟩⟩⟩), wd_t ht hW⟩, hS.F ht⟩) hS.2.2 dJ3_checkIndex_8e157_17
    · have c_2 : p1.toInt ≤ p0.toInt := xI_nlt rfl rfl c_2
      exfalso; omega

set_option maxHeartbeats 4000000 in
set_option maxRecDepth 100000 in
theorem k_jPreR (l : Launch) (D : va_G) (k : KT) (A : Nat → Prop) (a : Nat → Nat) (z : SK) (G : GS) (p0 : Int32) (p1 : Int32) (t0 : Nat) (hq : 0 ≤ p0.toInt ∧ p0.toInt < p1.toInt) : Met l yJ3_checkIndex_8e157 (WS yJ3_checkIndex_8e157 cJ3_checkIndex_8e157 3 (some .int)) ({ frames := 0, cells := 0, slots := 0, locals := 0 }) (va_Pc [.int p0, .int p1, .ref t0] (cW D k A a z G)) (va_Qi (fun (r : Int32) (G1 : GS) => P_jPreR p0 p1 G r G1) (fun (G1 : GS) t => Wd D k A a G1 t.heap) A) 0 0 A := by
  refine Met.ofW (cc := cJ3_checkIndex_8e157) (maxL := 3) (ret := (some .int)) (by decide) rfl ?_
  intro p e s m args below meth c s₁ B hml hv
  obtain ⟨rfl, hW, hB_G, hK, hZ⟩ := hv
  have hx := B.exec
  have hb := B.bytes
  have hr := B.returns
  have hts := atoms_spec (ws := WS yJ3_checkIndex_8e157 cJ3_checkIndex_8e157 3 (some .int)) B.pre
  have hgd : ∀ w ∈ gd, w ∈ WS yJ3_checkIndex_8e157 cJ3_checkIndex_8e157 3 (some .int) := fun w h => List.mem_cons_of_mem _ h
  have hg : ∀ w ∈ gd, w.before _ s = true := fun w h => hts w (hgd w h)
  have hown : s.vm.findClass RJ3 = some m.cls := findClass_of_methodNamed B.named
  have hS : va_S A s.heap s.heap [] := va_S.rf
  have hF : Fr [] [] G G := Fr.rf
  have hl := lv_entry ([.int p0, .int p1, .ref t0]) (n := 3) (Nat.le_of_ble_eq_true rfl)
  rw [lg_entry_eq]
  generalize (lg_sl ([.int p0, .int p1, .ref t0]) ++ List.replicate (3 - (lg_sl ([.int p0, .int p1, .ref t0])).length) Slot.unset).toArray = ls at hl ⊢
  have hl : lv_has ls 3 [(0, .int p0), (1, .int p1), (2, .ref t0)] := hl
  refine lv_iload_n hx hb dJ3_checkIndex_8e157_0 rfl (lv_at hl 0 rfl) ?_
  refine lv_if_lt (tgt := 9) hx hb dJ3_checkIndex_8e157_1 rfl (fun c_1 => ?_) (fun c_1 => ?_)
  · have c_1 : p0.toInt < 0 := xI_lt rfl rfl c_1
    exfalso; omega
  · have c_1 : 0 ≤ p0.toInt := xI_nlt rfl rfl c_1
    refine lv_iload_n hx hb dJ3_checkIndex_8e157_4 rfl (lv_at hl 0 rfl) ?_
    refine lv_iload_n hx hb dJ3_checkIndex_8e157_5 rfl (lv_at hl 1 rfl) ?_
    refine lv_icmp_lt (tgt := 16) hx hb dJ3_checkIndex_8e157_6 rfl (fun c_2 => ?_) (fun c_2 => ?_)
    · have c_2 : p0.toInt < p1.toInt := xI_lt rfl rfl c_2
      refine lv_iload_n hx hb dJ3_checkIndex_8e157_16 rfl (lv_at hl 0 rfl) ?_
      exact W.iret (v := p0) hx hb hr (fun t ht _ => ⟨⟨p0, G, rfl, (P_jPreR_mk ⟨hB_G, hF, ⟨c_1, ⟨c_2, ⟨rfl, rfl⟩⟩⟩⟩), wd_t ht hW⟩, hS.F ht⟩) hS.2.2 dJ3_checkIndex_8e157_17
    · have c_2 : p1.toInt ≤ p0.toInt := xI_nlt rfl rfl c_2
      exfalso; omega

set_option maxHeartbeats 4000000 in
set_option maxRecDepth 100000 in
theorem k_jCheck (l : Launch) (D : va_G) (k : KT) (A : Nat → Prop) (a : Nat → Nat) (z : SK) (G : GS) (p0 : Int32) (p1 : Int32) (hq : 0 ≤ p0.toInt ∧ p0.toInt < p1.toInt) : Met l yJ0_checkIndex_df160 (WS yJ0_checkIndex_df160 cJ0_checkIndex_df160 2 none) ({ frames := 1, cells := 0, slots := 0, locals := 22 }) (va_Pc [.int p0, .int p1] (cW D k A a z G)) (va_Qv (fun (G1 : GS) => Bd G1 ∧ Fr [] [] G G1) (fun (G1 : GS) t => Wd D k A a G1 t.heap) A) 0 0 A := by
  refine Met.ofW (cc := cJ0_checkIndex_df160) (maxL := 2) (ret := none) (by decide) rfl ?_
  intro p e s m args below meth c s₁ B hml hv
  obtain ⟨rfl, hW, hB_G, hK, hZ⟩ := hv
  have hx := B.exec
  have hb := B.bytes
  have hr := B.returns
  have hts := atoms_spec (ws := WS yJ0_checkIndex_df160 cJ0_checkIndex_df160 2 none) B.pre
  have hgd : ∀ w ∈ gd, w ∈ WS yJ0_checkIndex_df160 cJ0_checkIndex_df160 2 none := fun w h => List.mem_cons_of_mem _ h
  have hg : ∀ w ∈ gd, w.before _ s = true := fun w h => hts w (hgd w h)
  have hown : s.vm.findClass RJ0 = some m.cls := findClass_of_methodNamed B.named
  have hS : va_S A s.heap s.heap [] := va_S.rf
  have hF : Fr [] [] G G := Fr.rf
  have hl := lv_entry ([.int p0, .int p1]) (n := 2) (Nat.le_of_ble_eq_true rfl)
  rw [lg_entry_eq]
  generalize (lg_sl ([.int p0, .int p1]) ++ List.replicate (2 - (lg_sl ([.int p0, .int p1])).length) Slot.unset).toArray = ls at hl ⊢
  have hl : lv_has ls 2 [(0, .int p0), (1, .int p1)] := hl
  refine lv_iload_n hx hb dJ0_checkIndex_df160_0 rfl (lv_at hl 0 rfl) ?_
  refine lv_iload_n hx hb dJ0_checkIndex_df160_1 rfl (lv_at hl 1 rfl) ?_
  rcases hZ.2.2.2.2 with h_2 | ⟨t_1, h_2⟩
  · refine va_gets hx hb h_2 hS hown (hg (Cond.fieldLink "java/lang/String" 1053 "jdk/internal/util/Preconditions" "SIOOBE_FORMATTER" "Ljava/util/function/BiFunction;") m679) (fun _ h9 => h9) dJ0_checkIndex_df160_2 ?_
    refine S_calli (va_runS (As := [.int p0, .int p1, .null]) (rest := []) ⟨hx, hb, hml, hown, hts⟩ (k_jPreN l D k A a z G p0 p1 ((by first | exact ⟨(by omega), (by omega)⟩ | omega))) (va_cwS 3 hts (gd_S hgd m681 m682 m135 m683) rfl rfl rfl hd_J3_checkIndex_8e157.2 ⟨Nat.le_of_ble_eq_true rfl, Nat.le_of_ble_eq_true rfl⟩) (pre_S hW hB_G hK hZ hS) rfl rfl hl.1 rfl (lv_room (Nat.le_of_ble_eq_true rfl)) dJ0_checkIndex_df160_5 ⟨Nat.le_of_ble_eq_true rfl, Nat.le_of_ble_eq_true rfl⟩) hS (fun r_3 G_4 H locs hpo hW hS => ?_)
    obtain ⟨hB_G_4, hq_5, -⟩ := hpo
    have hF := hF.call9 hq_5 rfl rfl
    refine lv_pop hx hb dJ0_checkIndex_df160_8 rfl ?_
    exact W.vret hx hb hr (fun t ht _ => ⟨⟨G_4, rfl, ⟨hB_G_4, hF⟩, wd_t ht hW⟩, hS.F ht⟩) hS.2.2 dJ0_checkIndex_df160_9
  · refine va_gets hx hb h_2 hS hown (hg (Cond.fieldLink "java/lang/String" 1053 "jdk/internal/util/Preconditions" "SIOOBE_FORMATTER" "Ljava/util/function/BiFunction;") m679) (fun _ h9 => h9) dJ0_checkIndex_df160_2 ?_
    refine S_calli (va_runS (As := [.int p0, .int p1, .ref t_1]) (rest := []) ⟨hx, hb, hml, hown, hts⟩ (k_jPreR l D k A a z G p0 p1 t_1 ((by first | exact ⟨(by omega), (by omega)⟩ | omega))) (va_cwS 3 hts (gd_S hgd m681 m682 m135 m683) rfl rfl rfl hd_J3_checkIndex_8e157.2 ⟨Nat.le_of_ble_eq_true rfl, Nat.le_of_ble_eq_true rfl⟩) (pre_S hW hB_G hK hZ hS) rfl rfl hl.1 rfl (lv_room (Nat.le_of_ble_eq_true rfl)) dJ0_checkIndex_df160_5 ⟨Nat.le_of_ble_eq_true rfl, Nat.le_of_ble_eq_true rfl⟩) hS (fun r_7 G_8 H locs hpo hW hS => ?_)
    obtain ⟨hB_G_8, hq_9, -⟩ := hpo
    have hF := hF.call9 hq_9 rfl rfl
    refine lv_pop hx hb dJ0_checkIndex_df160_8 rfl ?_
    exact W.vret hx hb hr (fun t ht _ => ⟨⟨G_8, rfl, ⟨hB_G_8, hF⟩, wd_t ht hW⟩, hS.F ht⟩) hS.2.2 dJ0_checkIndex_df160_9

set_option maxHeartbeats 4000000 in
set_option maxRecDepth 100000 in
theorem k_jCan (l : Launch) (D : va_G) (k : KT) (A : Nat → Prop) (a : Nat → Nat) (z : SK) (G : GS) (p0 : Int32)  : Met l yJ1_canEncode_9a6ad (WS yJ1_canEncode_9a6ad cJ1_canEncode_9a6ad 1 (some .boolean)) ({ frames := 0, cells := 0, slots := 0, locals := 0 }) (va_Pc [.int p0] (cW D k A a z G)) (va_Qi (fun (r : Int32) (G1 : GS) => P_jCan p0 G r G1) (fun (G1 : GS) t => Wd D k A a G1 t.heap) A) 0 0 A := by
  refine Met.ofW (cc := cJ1_canEncode_9a6ad) (maxL := 1) (ret := (some .boolean)) (by decide) rfl ?_
  intro p e s m args below meth c s₁ B hml hv
  obtain ⟨rfl, hW, hB_G, hK, hZ⟩ := hv
  have hx := B.exec
  have hb := B.bytes
  have hr := B.returns
  have hts := atoms_spec (ws := WS yJ1_canEncode_9a6ad cJ1_canEncode_9a6ad 1 (some .boolean)) B.pre
  have hgd : ∀ w ∈ gd, w ∈ WS yJ1_canEncode_9a6ad cJ1_canEncode_9a6ad 1 (some .boolean) := fun w h => List.mem_cons_of_mem _ h
  have hg : ∀ w ∈ gd, w.before _ s = true := fun w h => hts w (hgd w h)
  have hown : s.vm.findClass RJ1 = some m.cls := findClass_of_methodNamed B.named
  have hS : va_S A s.heap s.heap [] := va_S.rf
  have hF : Fr [] [] G G := Fr.rf
  have hl := lv_entry ([.int p0]) (n := 1) (Nat.le_of_ble_eq_true rfl)
  rw [lg_entry_eq]
  generalize (lg_sl ([.int p0]) ++ List.replicate (1 - (lg_sl ([.int p0])).length) Slot.unset).toArray = ls at hl ⊢
  have hl : lv_has ls 1 [(0, .int p0)] := hl
  refine lv_iload_n hx hb dJ1_canEncode_9a6ad_0 rfl (lv_at hl 0 rfl) ?_
  refine lv_if_lt (tgt := 15) hx hb dJ1_canEncode_9a6ad_1 rfl (fun c_1 => ?_) (fun c_1 => ?_)
  · have c_1 : p0.toInt < 0 := xI_lt rfl rfl c_1
    refine ic_0 hx hb dJ1_canEncode_9a6ad_15 ?_
    exact W.zret (v := 0) hx hb hr (by decide) (fun t ht _ => ⟨⟨0, G, rfl, (P_jCan_mk ⟨hB_G, hF, ⟨by decide, by decide⟩, (Or.inl ⟨c_1, ⟨rfl, rfl⟩⟩)⟩), wd_t ht hW⟩, hS.F ht⟩) hS.2.2 dJ1_canEncode_9a6ad_16
  · have c_1 : 0 ≤ p0.toInt := xI_nlt rfl rfl c_1
    refine lv_iload_n hx hb dJ1_canEncode_9a6ad_4 rfl (lv_at hl 0 rfl) ?_
    refine lv_sipush (v := 255) hx hb dJ1_canEncode_9a6ad_5 (by decide) ?_
    refine lv_icmp_gt (tgt := 15) hx hb dJ1_canEncode_9a6ad_8 rfl (fun c_2 => ?_) (fun c_2 => ?_)
    · have c_2 : 255 < p0.toInt := xI_lt rfl rfl c_2
      refine ic_0 hx hb dJ1_canEncode_9a6ad_15 ?_
      exact W.zret (v := 0) hx hb hr (by decide) (fun t ht _ => ⟨⟨0, G, rfl, (P_jCan_mk ⟨hB_G, hF, ⟨by decide, by decide⟩, (Or.inr ⟨c_1, (Or.inl ⟨c_2, ⟨rfl, rfl⟩⟩)⟩)⟩), wd_t ht hW⟩, hS.F ht⟩) hS.2.2 dJ1_canEncode_9a6ad_16
    · have c_2 : p0.toInt ≤ 255 := xI_nlt rfl rfl c_2
      refine ic_1 hx hb dJ1_canEncode_9a6ad_11 ?_
      refine lv_goto (tgt := 16) hx hb dJ1_canEncode_9a6ad_12 rfl ?_
      exact W.zret (v := 1) hx hb hr (by decide) (fun t ht _ => ⟨⟨1, G, rfl, (P_jCan_mk ⟨hB_G, hF, ⟨by decide, by decide⟩, (Or.inr ⟨c_1, (Or.inr ⟨c_2, ⟨rfl, rfl⟩⟩)⟩)⟩), wd_t ht hW⟩, hS.F ht⟩) hS.2.2 dJ1_canEncode_9a6ad_16

set_option maxHeartbeats 4000000 in
set_option maxRecDepth 100000 in
theorem k_jLat_0 (l : Launch) (D : va_G) (k : KT) (A : Nat → Prop) (a : Nat → Nat) (z : SK) (G : GS)   : Met l yJ0_isLatin1_aae02 (WS yJ0_isLatin1_aae02 cJ0_isLatin1_aae02 1 (some .boolean)) ({ frames := 0, cells := 0, slots := 0, locals := 0 }) (va_Pc [.ref (z.1 0)] (cW D k A a z G)) (va_Qi (fun (r : Int32) (G1 : GS) => P_jLat_0 G r G1) (fun (G1 : GS) t => Wd D k A a G1 t.heap) A) 0 0 A := by
  refine Met.ofW (cc := cJ0_isLatin1_aae02) (maxL := 1) (ret := (some .boolean)) (by decide) rfl ?_
  intro p e s m args below meth c s₁ B hml hv
  obtain ⟨rfl, hW, hB_G, hK, hZ⟩ := hv
  have hx := B.exec
  have hb := B.bytes
  have hr := B.returns
  have hts := atoms_spec (ws := WS yJ0_isLatin1_aae02 cJ0_isLatin1_aae02 1 (some .boolean)) B.pre
  have hgd : ∀ w ∈ gd, w ∈ WS yJ0_isLatin1_aae02 cJ0_isLatin1_aae02 1 (some .boolean) := fun w h => List.mem_cons_of_mem _ h
  have hg : ∀ w ∈ gd, w.before _ s = true := fun w h => hts w (hgd w h)
  have hown : s.vm.findClass RJ0 = some m.cls := findClass_of_methodNamed B.named
  have hS : va_S A s.heap s.heap [] := va_S.rf
  have hF : Fr [] [] G G := Fr.rf
  have hl := lv_entry ([.ref (z.1 0)]) (n := 1) (Nat.le_of_ble_eq_true rfl)
  rw [lg_entry_eq]
  generalize (lg_sl ([.ref (z.1 0)]) ++ List.replicate (1 - (lg_sl ([.ref (z.1 0)])).length) Slot.unset).toArray = ls at hl ⊢
  have hl : lv_has ls 1 [(0, .ref (z.1 0))] := hl
  refine va_gets hx hb hZ.2.2.2.1 hS hown (hg (Cond.fieldLink "java/lang/String" 38 "java/lang/String" "COMPACT_STRINGS" "Z") m663) (fun _ h9 => h9) dJ0_isLatin1_aae02_0 ?_
  refine lv_if_eq (tgt := 17) hx hb dJ0_isLatin1_aae02_3 rfl (fun c_1 => ?_) (fun c_1 => ?_)
  · have c_1 : (1 : Int) = (0 : Int) := xI_eq rfl rfl c_1
    exfalso; omega
  · have c_1 : (1 : Int) ≠ (0 : Int) := xI_ne rfl rfl c_1
    refine lv_aload_n hx hb dJ0_isLatin1_aae02_6 rfl (lv_at hl 0 rfl) ?_
    refine vk_getf hx hb (hZ.1.1 0 (by decide)).2.1 hS hown (hg (Cond.fieldLink "java/lang/String" 15 "java/lang/String" "coder" "B") m2082) (fun _ h9 => h9) dJ0_isLatin1_aae02_7 ?_
    refine lv_if_ne (tgt := 17) hx hb dJ0_isLatin1_aae02_10 rfl (fun c_2 => ?_) (fun c_2 => ?_)
    · have c_2 : (0 : Int) ≠ (0 : Int) := xI_ne rfl rfl c_2
      exfalso; omega
    · have c_2 : (0 : Int) = (0 : Int) := xI_eq rfl rfl c_2
      refine ic_1 hx hb dJ0_isLatin1_aae02_13 ?_
      refine lv_goto (tgt := 18) hx hb dJ0_isLatin1_aae02_14 rfl ?_
      exact W.zret (v := 1) hx hb hr (by decide) (fun t ht _ => ⟨⟨1, G, rfl, (P_jLat_0_mk ⟨hB_G, hF, ⟨by decide, by decide⟩, ⟨rfl, rfl⟩⟩), wd_t ht hW⟩, hS.F ht⟩) hS.2.2 dJ0_isLatin1_aae02_18

set_option maxHeartbeats 4000000 in
set_option maxRecDepth 100000 in
theorem k_jCoder_0 (l : Launch) (D : va_G) (k : KT) (A : Nat → Prop) (a : Nat → Nat) (z : SK) (G : GS)   : Met l yJ0_coder_7d493 (WS yJ0_coder_7d493 cJ0_coder_7d493 1 (some .byte)) ({ frames := 0, cells := 0, slots := 0, locals := 0 }) (va_Pc [.ref (z.1 0)] (cW D k A a z G)) (va_Qi (fun (r : Int32) (G1 : GS) => P_jCoder_0 G r G1) (fun (G1 : GS) t => Wd D k A a G1 t.heap) A) 0 0 A := by
  refine Met.ofW (cc := cJ0_coder_7d493) (maxL := 1) (ret := (some .byte)) (by decide) rfl ?_
  intro p e s m args below meth c s₁ B hml hv
  obtain ⟨rfl, hW, hB_G, hK, hZ⟩ := hv
  have hx := B.exec
  have hb := B.bytes
  have hr := B.returns
  have hts := atoms_spec (ws := WS yJ0_coder_7d493 cJ0_coder_7d493 1 (some .byte)) B.pre
  have hgd : ∀ w ∈ gd, w ∈ WS yJ0_coder_7d493 cJ0_coder_7d493 1 (some .byte) := fun w h => List.mem_cons_of_mem _ h
  have hg : ∀ w ∈ gd, w.before _ s = true := fun w h => hts w (hgd w h)
  have hown : s.vm.findClass RJ0 = some m.cls := findClass_of_methodNamed B.named
  have hS : va_S A s.heap s.heap [] := va_S.rf
  have hF : Fr [] [] G G := Fr.rf
  have hl := lv_entry ([.ref (z.1 0)]) (n := 1) (Nat.le_of_ble_eq_true rfl)
  rw [lg_entry_eq]
  generalize (lg_sl ([.ref (z.1 0)]) ++ List.replicate (1 - (lg_sl ([.ref (z.1 0)])).length) Slot.unset).toArray = ls at hl ⊢
  have hl : lv_has ls 1 [(0, .ref (z.1 0))] := hl
  refine va_gets hx hb hZ.2.2.2.1 hS hown (hg (Cond.fieldLink "java/lang/String" 38 "java/lang/String" "COMPACT_STRINGS" "Z") m663) (fun _ h9 => h9) dJ0_coder_7d493_0 ?_
  refine lv_if_eq (tgt := 13) hx hb dJ0_coder_7d493_3 rfl (fun c_1 => ?_) (fun c_1 => ?_)
  · have c_1 : (1 : Int) = (0 : Int) := xI_eq rfl rfl c_1
    exfalso; omega
  · have c_1 : (1 : Int) ≠ (0 : Int) := xI_ne rfl rfl c_1
    refine lv_aload_n hx hb dJ0_coder_7d493_6 rfl (lv_at hl 0 rfl) ?_
    refine vk_getf hx hb (hZ.1.1 0 (by decide)).2.1 hS hown (hg (Cond.fieldLink "java/lang/String" 15 "java/lang/String" "coder" "B") m2082) (fun _ h9 => h9) dJ0_coder_7d493_7 ?_
    refine lv_goto (tgt := 14) hx hb dJ0_coder_7d493_10 rfl ?_
    exact W.zret (v := 0) hx hb hr (by decide) (fun t ht _ => ⟨⟨0, G, rfl, (P_jCoder_0_mk ⟨hB_G, hF, ⟨by decide, by decide⟩, ⟨rfl, rfl⟩⟩), wd_t ht hW⟩, hS.F ht⟩) hS.2.2 dJ0_coder_7d493_14

set_option maxHeartbeats 4000000 in
set_option maxRecDepth 100000 in
theorem k_jLen_0 (l : Launch) (D : va_G) (k : KT) (A : Nat → Prop) (a : Nat → Nat) (z : SK) (G : GS)   : Met l yJ0_length_8abf5 (WS yJ0_length_8abf5 cJ0_length_8abf5 1 (some .int)) ({ frames := 1, cells := 0, slots := 0, locals := 20 }) (va_Pc [.ref (z.1 0)] (cW D k A a z G)) (va_Qi (fun (r : Int32) (G1 : GS) => P_jLen_0 G r G1) (fun (G1 : GS) t => Wd D k A a G1 t.heap) A) 0 0 A := by
  refine Met.ofW (cc := cJ0_length_8abf5) (maxL := 1) (ret := (some .int)) (by decide) rfl ?_
  intro p e s m args below meth c s₁ B hml hv
  obtain ⟨rfl, hW, hB_G, hK, hZ⟩ := hv
  have hx := B.exec
  have hb := B.bytes
  have hr := B.returns
  have hts := atoms_spec (ws := WS yJ0_length_8abf5 cJ0_length_8abf5 1 (some .int)) B.pre
  have hgd : ∀ w ∈ gd, w ∈ WS yJ0_length_8abf5 cJ0_length_8abf5 1 (some .int) := fun w h => List.mem_cons_of_mem _ h
  have hg : ∀ w ∈ gd, w.before _ s = true := fun w h => hts w (hgd w h)
  have hown : s.vm.findClass RJ0 = some m.cls := findClass_of_methodNamed B.named
  have hS : va_S A s.heap s.heap [] := va_S.rf
  have hF : Fr [] [] G G := Fr.rf
  have hl := lv_entry ([.ref (z.1 0)]) (n := 1) (Nat.le_of_ble_eq_true rfl)
  rw [lg_entry_eq]
  generalize (lg_sl ([.ref (z.1 0)]) ++ List.replicate (1 - (lg_sl ([.ref (z.1 0)])).length) Slot.unset).toArray = ls at hl ⊢
  have hl : lv_has ls 1 [(0, .ref (z.1 0))] := hl
  refine lv_aload_n hx hb dJ0_length_8abf5_0 rfl (lv_at hl 0 rfl) ?_
  refine vk_getf hx hb (hZ.1.1 0 (by decide)).2.2.1 hS hown (hg (Cond.fieldLink "java/lang/String" 9 "java/lang/String" "value" "[B") m2081) (fun _ h9 => h9) dJ0_length_8abf5_1 ?_
  refine va_tlen (v := 184) hx hb (hZ.1.1 0 (by decide)).2.2.2 hS rfl dJ0_length_8abf5_4 ?_
  refine lv_aload_n hx hb dJ0_length_8abf5_5 rfl (lv_at hl 0 rfl) ?_
  refine S_calli (va_runV (As := []) (rest := [.int 184]) ⟨hx, hb, hml, hown, hts⟩ (k_jCoder_0 l D k A a z G  ) (cwV 0 hts (gd_V hgd m659 m660 m661 m133 m662) rfl rfl rfl hd_J0_coder_7d493 ⟨Nat.le_of_ble_eq_true rfl, Nat.le_of_ble_eq_true rfl⟩) (pre_VS hW hB_G hK hZ hS 0 (by decide)) rfl rfl hl.1 rfl (lv_room (Nat.le_of_ble_eq_true rfl)) dJ0_length_8abf5_6 ⟨Nat.le_of_ble_eq_true rfl, Nat.le_of_ble_eq_true rfl⟩) hS (fun r_1 G_2 H locs hpo hW hS => ?_)
  have hX_5 : P_jCoder_0 G r_1 G_2 := hpo
  obtain ⟨hB_G_2, hq_3, f_6, -⟩ := hpo
  have hF := hF.call9 hq_3 rfl rfl
  refine lv_ishr hx hb dJ0_length_8abf5_9 ?_
  refine lv_topi (fun y_7 ey_7 => ?_)
  have ty_7 : y_7.toInt = 184 := sh0 ey_7 (by omega) rfl
  exact W.iret (v := y_7) hx hb hr (fun t ht _ => ⟨⟨y_7, G_2, rfl, (P_jLen_0_mk ⟨hB_G_2, hF, ⟨by omega, by omega⟩, ⟨r_1, G_2, hX_5, ⟨y_7, ey_7, ⟨rfl, rfl⟩⟩⟩⟩), wd_t ht hW⟩, hS.F ht⟩) hS.2.2 dJ0_length_8abf5_10

set_option maxHeartbeats 4000000 in
set_option maxRecDepth 100000 in
theorem k_jLCharAt_0 (l : Launch) (D : va_G) (k : KT) (A : Nat → Prop) (a : Nat → Nat) (z : SK) (G : GS) (p0 : Int32) (ha_p0 : 0 ≤ p0.toInt ∧ p0.toInt ≤ 183) : Met l yJ1_charAt_3b067 (WS yJ1_charAt_3b067 cJ1_charAt_3b067 2 (some .char)) ({ frames := 2, cells := 0, slots := 0, locals := 43 }) (va_Pc [.ref (z.2 0), .int p0] (cW D k A a z G)) (va_Qi (fun (r : Int32) (G1 : GS) => P_jLCharAt_0 p0 G r G1) (fun (G1 : GS) t => Wd D k A a G1 t.heap) A) 0 0 A := by
  refine Met.ofW (cc := cJ1_charAt_3b067) (maxL := 2) (ret := (some .char)) (by decide) rfl ?_
  intro p e s m args below meth c s₁ B hml hv
  obtain ⟨rfl, hW, hB_G, hK, hZ⟩ := hv
  have hx := B.exec
  have hb := B.bytes
  have hr := B.returns
  have hts := atoms_spec (ws := WS yJ1_charAt_3b067 cJ1_charAt_3b067 2 (some .char)) B.pre
  have hgd : ∀ w ∈ gd, w ∈ WS yJ1_charAt_3b067 cJ1_charAt_3b067 2 (some .char) := fun w h => List.mem_cons_of_mem _ h
  have hg : ∀ w ∈ gd, w.before _ s = true := fun w h => hts w (hgd w h)
  have hown : s.vm.findClass RJ1 = some m.cls := findClass_of_methodNamed B.named
  have hS : va_S A s.heap s.heap [] := va_S.rf
  have hF : Fr [] [] G G := Fr.rf
  have hl := lv_entry ([.ref (z.2 0), .int p0]) (n := 2) (Nat.le_of_ble_eq_true rfl)
  rw [lg_entry_eq]
  generalize (lg_sl ([.ref (z.2 0), .int p0]) ++ List.replicate (2 - (lg_sl ([.ref (z.2 0), .int p0])).length) Slot.unset).toArray = ls at hl ⊢
  have hl : lv_has ls 2 [(0, .ref (z.2 0)), (1, .int p0)] := hl
  refine lv_iload_n hx hb dJ1_charAt_3b067_0 rfl (lv_at hl 1 rfl) ?_
  refine lv_aload_n hx hb dJ1_charAt_3b067_1 rfl (lv_at hl 0 rfl) ?_
  refine va_tlen (v := 184) hx hb (hZ.1.1 0 (by decide)).2.2.2 hS rfl dJ1_charAt_3b067_2 ?_
  have qc_1 : (184 : Int32).toInt = 184 := rfl
  refine S_callv (va_runS (As := [.int p0, .int 184]) (rest := []) ⟨hx, hb, hml, hown, hts⟩ (k_jCheck l D k A a z G p0 184 ((by first | exact ⟨(by omega), (by omega)⟩ | omega))) (va_cwS 2 hts (gd_S hgd m676 m677 m133 m678) rfl rfl rfl hd_J0_checkIndex_df160.2 ⟨Nat.le_of_ble_eq_true rfl, Nat.le_of_ble_eq_true rfl⟩) (pre_S hW hB_G hK hZ hS) rfl rfl hl.1 rfl (lv_room (Nat.le_of_ble_eq_true rfl)) dJ1_charAt_3b067_3 ⟨Nat.le_of_ble_eq_true rfl, Nat.le_of_ble_eq_true rfl⟩) hS (fun G_3 H locs hpo hW hS => ?_)
  obtain ⟨hB_G_3, hq_4⟩ := hpo
  have hF := hF.call9 hq_4 rfl rfl
  refine lv_aload_n hx hb dJ1_charAt_3b067_6 rfl (lv_at hl 0 rfl) ?_
  refine lv_iload_n hx hb dJ1_charAt_3b067_7 rfl (lv_at hl 1 rfl) ?_
  refine va_tb hx hb (hZ.1.1 0 (by decide)).2.2.2 hS (vin (n := 184) (by omega) (by omega)) rfl dJ1_charAt_3b067_8 ?_
  refine lv_topi (fun y_7 ey_7 => ?_)
  refine lv_sipush (v := 255) hx hb dJ1_charAt_3b067_9 (by decide) ?_
  refine lv_iand hx hb dJ1_charAt_3b067_12 ?_
  refine lv_topi (fun y_8 ey_8 => ?_)
  have ty_8 := xI_and (Y := 255) rfl ey_8 (by decide)
  refine lv_i2c hx hb dJ1_charAt_3b067_13 rfl ?_
  refine lv_topi (fun y_9 ey_9 => ?_)
  have ty_9 := i2c_ok ey_9 (by omega) (by omega)
  exact W.zret (v := y_9) hx hb hr (nar_c (by omega) (by omega)) (fun t ht _ => ⟨⟨y_9, G_3, rfl, (P_jLCharAt_0_mk ⟨hB_G_3, hF, ⟨by omega, by omega⟩, ⟨G_3, hB_G_3, hq_4, ⟨y_7, ey_7, ⟨y_8, ey_8, ⟨y_9, ey_9, ⟨rfl, rfl⟩⟩⟩⟩⟩⟩), wd_t ht hW⟩, hS.F ht⟩) hS.2.2 dJ1_charAt_3b067_14

set_option maxHeartbeats 4000000 in
set_option maxRecDepth 100000 in
theorem k_jCharAt_0 (l : Launch) (D : va_G) (k : KT) (A : Nat → Prop) (a : Nat → Nat) (z : SK) (G : GS) (p0 : Int32) (ha_p0 : 0 ≤ p0.toInt ∧ p0.toInt ≤ 183) : Met l yJ0_charAt_5068e (WS yJ0_charAt_5068e cJ0_charAt_5068e 2 (some .char)) ({ frames := 3, cells := 0, slots := 0, locals := 64 }) (va_Pc [.ref (z.1 0), .int p0] (cW D k A a z G)) (va_Qi (fun (r : Int32) (G1 : GS) => P_jCharAt_0 p0 G r G1) (fun (G1 : GS) t => Wd D k A a G1 t.heap) A) 0 0 A := by
  refine Met.ofW (cc := cJ0_charAt_5068e) (maxL := 2) (ret := (some .char)) (by decide) rfl ?_
  intro p e s m args below meth c s₁ B hml hv
  obtain ⟨rfl, hW, hB_G, hK, hZ⟩ := hv
  have hx := B.exec
  have hb := B.bytes
  have hr := B.returns
  have hts := atoms_spec (ws := WS yJ0_charAt_5068e cJ0_charAt_5068e 2 (some .char)) B.pre
  have hgd : ∀ w ∈ gd, w ∈ WS yJ0_charAt_5068e cJ0_charAt_5068e 2 (some .char) := fun w h => List.mem_cons_of_mem _ h
  have hg : ∀ w ∈ gd, w.before _ s = true := fun w h => hts w (hgd w h)
  have hown : s.vm.findClass RJ0 = some m.cls := findClass_of_methodNamed B.named
  have hS : va_S A s.heap s.heap [] := va_S.rf
  have hF : Fr [] [] G G := Fr.rf
  have hl := lv_entry ([.ref (z.1 0), .int p0]) (n := 2) (Nat.le_of_ble_eq_true rfl)
  rw [lg_entry_eq]
  generalize (lg_sl ([.ref (z.1 0), .int p0]) ++ List.replicate (2 - (lg_sl ([.ref (z.1 0), .int p0])).length) Slot.unset).toArray = ls at hl ⊢
  have hl : lv_has ls 2 [(0, .ref (z.1 0)), (1, .int p0)] := hl
  refine lv_aload_n hx hb dJ0_charAt_5068e_0 rfl (lv_at hl 0 rfl) ?_
  refine S_calli (va_runV (As := []) (rest := []) ⟨hx, hb, hml, hown, hts⟩ (k_jLat_0 l D k A a z G  ) (cwV 0 hts (gd_V hgd m669 m670 m671 m133 m672) rfl rfl rfl hd_J0_isLatin1_aae02 ⟨Nat.le_of_ble_eq_true rfl, Nat.le_of_ble_eq_true rfl⟩) (pre_VS hW hB_G hK hZ hS 0 (by decide)) rfl rfl hl.1 rfl (lv_room (Nat.le_of_ble_eq_true rfl)) dJ0_charAt_5068e_1 ⟨Nat.le_of_ble_eq_true rfl, Nat.le_of_ble_eq_true rfl⟩) hS (fun r_1 G_2 H locs hpo hW hS => ?_)
  have hX_5 : P_jLat_0 G r_1 G_2 := hpo
  obtain ⟨hB_G_2, hq_3, f_6, -⟩ := hpo
  have hF := hF.call9 hq_3 rfl rfl
  refine lv_if_eq (tgt := 16) hx hb dJ0_charAt_5068e_4 rfl (fun c_7 => ?_) (fun c_7 => ?_)
  · have c_7 : r_1.toInt = 0 := xI_eq rfl rfl c_7
    exfalso; omega
  · have c_7 : r_1.toInt ≠ 0 := xI_ne rfl rfl c_7
    refine lv_aload_n hx hb dJ0_charAt_5068e_7 rfl (lv_at hl 0 rfl) ?_
    refine vk_getf hx hb (hZ.1.1 0 (by decide)).2.2.1 hS hown (hg (Cond.fieldLink "java/lang/String" 9 "java/lang/String" "value" "[B") m2081) (fun _ h9 => h9) dJ0_charAt_5068e_8 ?_
    refine lv_iload_n hx hb dJ0_charAt_5068e_11 rfl (lv_at hl 1 rfl) ?_
    refine S_calli (va_runS (As := [.ref (z.2 0), .int p0]) (rest := []) ⟨hx, hb, hml, hown, hts⟩ (k_jLCharAt_0 l D k A a z G_2 p0 ⟨by omega, by omega⟩) (va_cwS 2 hts (gd_S hgd m673 m674 m134 m675) rfl rfl rfl hd_J1_charAt_3b067.2 ⟨Nat.le_of_ble_eq_true rfl, Nat.le_of_ble_eq_true rfl⟩) (pre_S hW hB_G_2 hK hZ hS) rfl rfl hl.1 rfl (lv_room (Nat.le_of_ble_eq_true rfl)) dJ0_charAt_5068e_12 ⟨Nat.le_of_ble_eq_true rfl, Nat.le_of_ble_eq_true rfl⟩) hS (fun r_8 G_9 H locs hpo hW hS => ?_)
    have hX_12 : P_jLCharAt_0 p0 G_2 r_8 G_9 := hpo
    obtain ⟨hB_G_9, hq_10, f_13, -⟩ := hpo
    have hF := hF.call9 hq_10 rfl rfl
    exact W.zret (v := r_8) hx hb hr (nar_c (by omega) (by omega)) (fun t ht _ => ⟨⟨r_8, G_9, rfl, (P_jCharAt_0_mk ⟨hB_G_9, hF, ⟨(by first | (clear ha_p0 f_6 c_7; omega) | omega), (by first | (clear ha_p0 f_6 c_7; omega) | omega)⟩, ⟨r_1, G_2, hX_5, ⟨r_8, G_9, hX_12, ⟨rfl, rfl⟩⟩⟩⟩), wd_t ht hW⟩, hS.F ht⟩) hS.2.2 dJ0_charAt_5068e_15

set_option maxHeartbeats 4000000 in
set_option maxRecDepth 100000 in
theorem k_jLIdxC_0 (l : Launch) (D : va_G) (k : KT) (A : Nat → Prop) (a : Nat → Nat) (z : SK) (G : GS) (p0 : Int32) (p1 : Int32) (p2 : Int32) (ha_p1 : 0 ≤ p1.toInt ∧ p1.toInt ≤ 0) (ha_p2 : 184 ≤ p2.toInt ∧ p2.toInt ≤ 184) : Met l yJ1_indexOfChar_4cfef (WS yJ1_indexOfChar_4cfef cJ1_indexOfChar_4cfef 6 (some .int)) ({ frames := 0, cells := 0, slots := 0, locals := 0 }) (va_Pc [.ref (z.2 0), .int p0, .int p1, .int p2] (cW D k A a z G)) (va_Qi (fun (r : Int32) (G1 : GS) => P_jLIdxC_0 p0 p1 p2 G r G1) (fun (G1 : GS) t => Wd D k A a G1 t.heap) A) 0 0 A := by
  refine Met.ofW (cc := cJ1_indexOfChar_4cfef) (maxL := 6) (ret := (some .int)) (by decide) rfl ?_
  intro p e s m args below meth c s₁ B hml hv
  obtain ⟨rfl, hW, hB_G, hK, hZ⟩ := hv
  have hx := B.exec
  have hb := B.bytes
  have hr := B.returns
  have hts := atoms_spec (ws := WS yJ1_indexOfChar_4cfef cJ1_indexOfChar_4cfef 6 (some .int)) B.pre
  have hgd : ∀ w ∈ gd, w ∈ WS yJ1_indexOfChar_4cfef cJ1_indexOfChar_4cfef 6 (some .int) := fun w h => List.mem_cons_of_mem _ h
  have hg : ∀ w ∈ gd, w.before _ s = true := fun w h => hts w (hgd w h)
  have hown : s.vm.findClass RJ1 = some m.cls := findClass_of_methodNamed B.named
  have hS : va_S A s.heap s.heap [] := va_S.rf
  have hF : Fr [] [] G G := Fr.rf
  have hl := lv_entry ([.ref (z.2 0), .int p0, .int p1, .int p2]) (n := 6) (Nat.le_of_ble_eq_true rfl)
  rw [lg_entry_eq]
  generalize (lg_sl ([.ref (z.2 0), .int p0, .int p1, .int p2]) ++ List.replicate (6 - (lg_sl ([.ref (z.2 0), .int p0, .int p1, .int p2])).length) Slot.unset).toArray = ls at hl ⊢
  have hl : lv_has ls 6 [(0, .ref (z.2 0)), (1, .int p0), (2, .int p1), (3, .int p2)] := hl
  refine lv_iload_n hx hb dJ1_indexOfChar_4cfef_0 rfl (lv_at hl 1 rfl) ?_
  refine lv_i2b hx hb dJ1_indexOfChar_4cfef_1 rfl ?_
  refine lv_topi (fun y_1 ey_1 => ?_)
  refine lv_istore (lv' := [(4, .int y_1), (0, .ref (z.2 0)), (1, .int p0), (2, .int p1), (3, .int p2)]) hx hb dJ1_indexOfChar_4cfef_2 hl (lt_b rfl) rfl (fun ls hl => ?_)
  refine lv_iload_n hx hb dJ1_indexOfChar_4cfef_4 rfl (lv_at hl 3 rfl) ?_
  refine lv_istore (lv' := [(5, .int p1), (4, .int y_1), (0, .ref (z.2 0)), (1, .int p0), (2, .int p1), (3, .int p2)]) hx hb dJ1_indexOfChar_4cfef_5 hl (lt_b rfl) rfl (fun ls hl => ?_)
  refine loop_N (Inv := fun n H locs ls => ∃ (G_2 : GS) (x_6 : Int32), (n : Int) = 184 - x_6.toInt ∧ (0 ≤ x_6.toInt ∧ x_6.toInt ≤ 184) ∧ Rc (St_k_jLIdxC_0_1 p2 y_1) (p1, G) (x_6, G_2) ∧ Wd D k A a G_2 H ∧ Bd G_2 ∧ Fr [] [] G G_2 ∧ Fr [] [] G G_2 ∧ va_S A s.heap H locs ∧ lv_has ls 6 [(5, .int x_6), (4, .int y_1), (0, .ref (z.2 0)), (3, .int p2)]) (fun n_5 H locs ls ih_4 hI => ?_) (184 - p1.toInt : Int).toNat ⟨G, p1, (Int.toNat_of_nonneg (by omega)), ⟨by omega, by omega⟩, Rc.rf, hW, hB_G, hF, Fr.rf, hS, lv_sub hl [0, 1, 2, 5] rfl⟩
  obtain ⟨G_2, x_6, hn_9, f_8, hX_7, hW, hB_G_2, hF, hq_3, hS, hl⟩ := hI
  refine lv_iload hx hb dJ1_indexOfChar_4cfef_7 (lv_at hl 0 rfl) ?_
  refine lv_iload_n hx hb dJ1_indexOfChar_4cfef_9 rfl (lv_at hl 3 rfl) ?_
  refine lv_icmp_ge (tgt := 31) hx hb dJ1_indexOfChar_4cfef_10 rfl (fun c_10 => ?_) (fun c_10 => ?_)
  · have c_10 : p2.toInt ≤ x_6.toInt := xI_le rfl rfl c_10
    refine ic_m1 hx hb dJ1_indexOfChar_4cfef_31 ?_
    exact W.iret (v := (-1)) hx hb hr (fun t ht _ => ⟨⟨(-1), G_2, rfl, (P_jLIdxC_0_mk ⟨hB_G_2, hF, ⟨y_1, ey_1, ⟨x_6, G_2, hX_7, f_8, hB_G_2, hq_3, (Or.inl ⟨c_10, ⟨rfl, rfl⟩⟩)⟩⟩⟩), wd_t ht hW⟩, hS.F ht⟩) hS.2.2 dJ1_indexOfChar_4cfef_32
  · have c_10 : x_6.toInt < p2.toInt := xI_nle rfl rfl c_10
    refine lv_aload_n hx hb dJ1_indexOfChar_4cfef_13 rfl (lv_at hl 2 rfl) ?_
    refine lv_iload hx hb dJ1_indexOfChar_4cfef_14 (lv_at hl 0 rfl) ?_
    refine va_tb hx hb (hZ.1.1 0 (by decide)).2.2.2 hS (vin (n := 184) (by omega) (by omega)) rfl dJ1_indexOfChar_4cfef_16 ?_
    refine lv_topi (fun y_12 ey_12 => ?_)
    refine lv_iload hx hb dJ1_indexOfChar_4cfef_17 (lv_at hl 1 rfl) ?_
    refine lv_icmp_ne (tgt := 25) hx hb dJ1_indexOfChar_4cfef_19 rfl (fun c_13 => ?_) (fun c_13 => ?_)
    · have c_13 : y_12.toInt ≠ y_1.toInt := xI_ne rfl rfl c_13
      obtain ⟨y_14, ey_14⟩ : ∃ q, q = x_6 + 1 := ⟨_, rfl⟩
      have ty_14 : y_14.toInt = x_6.toInt + 1 := xI_add rfl rfl ey_14 ((by first | (clear ha_p1 hn_9 c_13; omega) | omega)) ((by first | (clear ha_p1 hn_9 c_13; omega) | omega))
      refine lv_iinc (v := y_14) (lv' := [(5, .int y_14), (4, .int y_1), (0, .ref (z.2 0)), (3, .int p2)]) hx hb dJ1_indexOfChar_4cfef_25 hl (k := 0) rfl (by rw [ey_14]; rfl) (lt_b rfl) rfl (fun ls hl => ?_)
      refine lv_goto (tgt := 7) hx hb dJ1_indexOfChar_4cfef_28 rfl ?_
      exact ih_4 (184 - y_14.toInt : Int).toNat (by omega) _ _ _ ⟨G_2, y_14, (Int.toNat_of_nonneg ((by first | (clear ha_p1 hn_9 c_13; omega) | omega))), ⟨(by first | (clear ha_p1 hn_9 c_13; omega) | omega), (by first | (clear ha_p1 hn_9 c_13; omega) | omega)⟩, (hX_7.st (St_k_jLIdxC_0_1_mk ⟨x_6, G_2, y_14, G_2, rfl, rfl, f_8, hB_G_2, ⟨c_10, ⟨y_12, ey_12, ⟨c_13, ⟨y_14, ty_14, ⟨rfl, rfl⟩⟩⟩⟩⟩⟩)), hW, hB_G_2, hF, (Fr.call9 (rs := []) (fs := []) Fr.rf hq_3 rfl rfl), hS, lv_sub hl [0, 1, 2, 3] rfl⟩
    · have c_13 : y_12.toInt = y_1.toInt := xI_eq rfl rfl c_13
      refine lv_iload hx hb dJ1_indexOfChar_4cfef_22 (lv_at hl 0 rfl) ?_
      exact W.iret (v := x_6) hx hb hr (fun t ht _ => ⟨⟨x_6, G_2, rfl, (P_jLIdxC_0_mk ⟨hB_G_2, hF, ⟨y_1, ey_1, ⟨x_6, G_2, hX_7, f_8, hB_G_2, hq_3, (Or.inr ⟨c_10, ⟨y_12, ey_12, ⟨c_13, ⟨rfl, rfl⟩⟩⟩⟩)⟩⟩⟩), wd_t ht hW⟩, hS.F ht⟩) hS.2.2 dJ1_indexOfChar_4cfef_24

set_option maxHeartbeats 4000000 in
set_option maxRecDepth 100000 in
theorem k_jLIdx_0 (l : Launch) (D : va_G) (k : KT) (A : Nat → Prop) (a : Nat → Nat) (z : SK) (G : GS) (p0 : Int32) (p1 : Int32) (p2 : Int32) (ha_p1 : 0 ≤ p1.toInt ∧ p1.toInt ≤ 0) (ha_p2 : 184 ≤ p2.toInt ∧ p2.toInt ≤ 184) : Met l yJ1_indexOf_4cfef (WS yJ1_indexOf_4cfef cJ1_indexOf_4cfef 4 (some .int)) ({ frames := 1, cells := 0, slots := 0, locals := 25 }) (va_Pc [.ref (z.2 0), .int p0, .int p1, .int p2] (cW D k A a z G)) (va_Qi (fun (r : Int32) (G1 : GS) => P_jLIdx_0 p0 p1 p2 G r G1) (fun (G1 : GS) t => Wd D k A a G1 t.heap) A) 0 0 A := by
  refine Met.ofW (cc := cJ1_indexOf_4cfef) (maxL := 4) (ret := (some .int)) (by decide) rfl ?_
  intro p e s m args below meth c s₁ B hml hv
  obtain ⟨rfl, hW, hB_G, hK, hZ⟩ := hv
  have hx := B.exec
  have hb := B.bytes
  have hr := B.returns
  have hts := atoms_spec (ws := WS yJ1_indexOf_4cfef cJ1_indexOf_4cfef 4 (some .int)) B.pre
  have hgd : ∀ w ∈ gd, w ∈ WS yJ1_indexOf_4cfef cJ1_indexOf_4cfef 4 (some .int) := fun w h => List.mem_cons_of_mem _ h
  have hg : ∀ w ∈ gd, w.before _ s = true := fun w h => hts w (hgd w h)
  have hown : s.vm.findClass RJ1 = some m.cls := findClass_of_methodNamed B.named
  have hS : va_S A s.heap s.heap [] := va_S.rf
  have hF : Fr [] [] G G := Fr.rf
  have hl := lv_entry ([.ref (z.2 0), .int p0, .int p1, .int p2]) (n := 4) (Nat.le_of_ble_eq_true rfl)
  rw [lg_entry_eq]
  generalize (lg_sl ([.ref (z.2 0), .int p0, .int p1, .int p2]) ++ List.replicate (4 - (lg_sl ([.ref (z.2 0), .int p0, .int p1, .int p2])).length) Slot.unset).toArray = ls at hl ⊢
  have hl : lv_has ls 4 [(0, .ref (z.2 0)), (1, .int p0), (2, .int p1), (3, .int p2)] := hl
  refine lv_iload_n hx hb dJ1_indexOf_4cfef_0 rfl (lv_at hl 1 rfl) ?_
  refine S_calli (va_runS (As := [.int p0]) (rest := []) ⟨hx, hb, hml, hown, hts⟩ (k_jCan l D k A a z G p0 ) (va_cwS 1 hts (gd_S hgd m724 m725 m134 m726) rfl rfl rfl hd_J1_canEncode_9a6ad.2 ⟨Nat.le_of_ble_eq_true rfl, Nat.le_of_ble_eq_true rfl⟩) (pre_S hW hB_G hK hZ hS) rfl rfl hl.1 rfl (lv_room (Nat.le_of_ble_eq_true rfl)) dJ1_indexOf_4cfef_1 ⟨Nat.le_of_ble_eq_true rfl, Nat.le_of_ble_eq_true rfl⟩) hS (fun r_1 G_2 H locs hpo hW hS => ?_)
  have hX_5 : P_jCan p0 G r_1 G_2 := hpo
  obtain ⟨hB_G_2, hq_3, f_6, -⟩ := hpo
  have hF := hF.call9 hq_3 rfl rfl
  refine lv_if_ne (tgt := 9) hx hb dJ1_indexOf_4cfef_4 rfl (fun c_7 => ?_) (fun c_7 => ?_)
  · have c_7 : r_1.toInt ≠ 0 := xI_ne rfl rfl c_7
    refine lv_iload_n hx hb dJ1_indexOf_4cfef_9 rfl (lv_at hl 2 rfl) ?_
    refine ic_0 hx hb dJ1_indexOf_4cfef_10 ?_
    refine va_mmax hx hb (by rw [hml]; exact hl.1.symm) hown (hg (Cond.methodLink "java/lang/StringLatin1" 92 Lib.Math.max.name) m727) (hg (Cond.static Lib.Math.max.name) m728) (hg (Cond.initialized "java/lang/Math") m132) (hg (Cond.code Lib.Math.max.name Lib.Math.max.code 2 (some .int)) m729) (Nat.le_of_ble_eq_true rfl) (Nat.le_of_ble_eq_true rfl) (Nat.le_of_ble_eq_true rfl) (Nat.le_of_ble_eq_true rfl) dJ1_indexOf_4cfef_11 ?_
    refine lv_topi (fun y_8 ey_8 => ?_)
    have ty_8 := xI_max (X := p1.toInt) (Y := 0) rfl rfl ey_8
    refine lv_istore_n (lv' := [(2, .int y_8), (0, .ref (z.2 0)), (1, .int p0), (3, .int p2)]) hx hb dJ1_indexOf_4cfef_14 rfl hl (lt_b rfl) rfl (fun ls hl => ?_)
    refine lv_iload_n hx hb dJ1_indexOf_4cfef_15 rfl (lv_at hl 3 rfl) ?_
    refine lv_aload_n hx hb dJ1_indexOf_4cfef_16 rfl (lv_at hl 1 rfl) ?_
    refine va_tlen (v := 184) hx hb (hZ.1.1 0 (by decide)).2.2.2 hS rfl dJ1_indexOf_4cfef_17 ?_
    refine va_mmin hx hb (by rw [hml]; exact hl.1.symm) hown (hg (Cond.methodLink "java/lang/StringLatin1" 38 Lib.Math.min.name) m730) (hg (Cond.static Lib.Math.min.name) m636) (hg (Cond.initialized "java/lang/Math") m132) (hg (Cond.code Lib.Math.min.name Lib.Math.min.code 2 (some .int)) m637) (Nat.le_of_ble_eq_true rfl) (Nat.le_of_ble_eq_true rfl) (Nat.le_of_ble_eq_true rfl) (Nat.le_of_ble_eq_true rfl) dJ1_indexOf_4cfef_18 ?_
    refine lv_topi (fun y_9 ey_9 => ?_)
    have ty_9 := xI_min (X := p2.toInt) (Y := 184) rfl rfl ey_9
    refine lv_istore_n (lv' := [(3, .int y_9), (2, .int y_8), (0, .ref (z.2 0)), (1, .int p0)]) hx hb dJ1_indexOf_4cfef_21 rfl hl (lt_b rfl) rfl (fun ls hl => ?_)
    refine lv_iload_n hx hb dJ1_indexOf_4cfef_22 rfl (lv_at hl 1 rfl) ?_
    refine lv_iload_n hx hb dJ1_indexOf_4cfef_23 rfl (lv_at hl 0 rfl) ?_
    refine lv_icmp_lt (tgt := 29) hx hb dJ1_indexOf_4cfef_24 rfl (fun c_10 => ?_) (fun c_10 => ?_)
    · have c_10 : y_8.toInt < y_9.toInt := xI_lt rfl rfl c_10
      refine lv_aload_n hx hb dJ1_indexOf_4cfef_29 rfl (lv_at hl 2 rfl) ?_
      refine lv_iload_n hx hb dJ1_indexOf_4cfef_30 rfl (lv_at hl 3 rfl) ?_
      refine lv_iload_n hx hb dJ1_indexOf_4cfef_31 rfl (lv_at hl 1 rfl) ?_
      refine lv_iload_n hx hb dJ1_indexOf_4cfef_32 rfl (lv_at hl 0 rfl) ?_
      refine S_calli (va_runS (As := [.ref (z.2 0), .int p0, .int y_8, .int y_9]) (rest := []) ⟨hx, hb, hml, hown, hts⟩ (k_jLIdxC_0 l D k A a z G_2 p0 y_8 y_9 ⟨(by first | (clear ha_p1 ha_p2 f_6 c_7; omega) | omega), (by first | (clear ha_p1 ha_p2 f_6 c_7; omega) | omega)⟩ ⟨(by first | (clear ha_p1 ha_p2 f_6 c_7; omega) | omega), (by first | (clear ha_p1 ha_p2 f_6 c_7; omega) | omega)⟩) (va_cwS 4 hts (gd_S hgd m731 m732 m134 m733) rfl rfl rfl hd_J1_indexOfChar_4cfef.2 ⟨Nat.le_of_ble_eq_true rfl, Nat.le_of_ble_eq_true rfl⟩) (pre_S hW hB_G_2 hK hZ hS) rfl rfl hl.1 rfl (lv_room (Nat.le_of_ble_eq_true rfl)) dJ1_indexOf_4cfef_33 ⟨Nat.le_of_ble_eq_true rfl, Nat.le_of_ble_eq_true rfl⟩) hS (fun r_11 G_12 H locs hpo hW hS => ?_)
      have hX_15 : P_jLIdxC_0 p0 y_8 y_9 G_2 r_11 G_12 := hpo
      obtain ⟨hB_G_12, hq_13, -⟩ := hpo
      have hF := hF.call9 hq_13 rfl rfl
      exact W.iret (v := r_11) hx hb hr (fun t ht _ => ⟨⟨r_11, G_12, rfl, (P_jLIdx_0_mk ⟨hB_G_12, hF, ⟨r_1, G_2, hX_5, (Or.inr ⟨c_7, ⟨y_8, ty_8, ⟨y_9, ty_9, ⟨r_11, G_12, hX_15, ⟨rfl, rfl⟩⟩⟩⟩⟩)⟩⟩), wd_t ht hW⟩, hS.F ht⟩) hS.2.2 dJ1_indexOf_4cfef_36
    · have c_10 : y_9.toInt ≤ y_8.toInt := xI_nlt rfl rfl c_10
      exfalso; first | (clear ha_p1 ha_p2 f_6 c_7; omega) | omega
  · have c_7 : r_1.toInt = 0 := xI_eq rfl rfl c_7
    refine ic_m1 hx hb dJ1_indexOf_4cfef_7 ?_
    exact W.iret (v := (-1)) hx hb hr (fun t ht _ => ⟨⟨(-1), G_2, rfl, (P_jLIdx_0_mk ⟨hB_G_2, hF, ⟨r_1, G_2, hX_5, (Or.inl ⟨c_7, ⟨rfl, rfl⟩⟩)⟩⟩), wd_t ht hW⟩, hS.F ht⟩) hS.2.2 dJ1_indexOf_4cfef_8

set_option maxHeartbeats 4000000 in
set_option maxRecDepth 100000 in
theorem k_jIdx2_0 (l : Launch) (D : va_G) (k : KT) (A : Nat → Prop) (a : Nat → Nat) (z : SK) (G : GS) (p0 : Int32) (p1 : Int32) (ha_p1 : 0 ≤ p1.toInt ∧ p1.toInt ≤ 0) : Met l yJ0_indexOf_7cf53 (WS yJ0_indexOf_7cf53 cJ0_indexOf_7cf53 3 (some .int)) ({ frames := 2, cells := 0, slots := 0, locals := 48 }) (va_Pc [.ref (z.1 0), .int p0, .int p1] (cW D k A a z G)) (va_Qi (fun (r : Int32) (G1 : GS) => P_jIdx2_0 p0 p1 G r G1) (fun (G1 : GS) t => Wd D k A a G1 t.heap) A) 0 0 A := by
  refine Met.ofW (cc := cJ0_indexOf_7cf53) (maxL := 3) (ret := (some .int)) (by decide) rfl ?_
  intro p e s m args below meth c s₁ B hml hv
  obtain ⟨rfl, hW, hB_G, hK, hZ⟩ := hv
  have hx := B.exec
  have hb := B.bytes
  have hr := B.returns
  have hts := atoms_spec (ws := WS yJ0_indexOf_7cf53 cJ0_indexOf_7cf53 3 (some .int)) B.pre
  have hgd : ∀ w ∈ gd, w ∈ WS yJ0_indexOf_7cf53 cJ0_indexOf_7cf53 3 (some .int) := fun w h => List.mem_cons_of_mem _ h
  have hg : ∀ w ∈ gd, w.before _ s = true := fun w h => hts w (hgd w h)
  have hown : s.vm.findClass RJ0 = some m.cls := findClass_of_methodNamed B.named
  have hS : va_S A s.heap s.heap [] := va_S.rf
  have hF : Fr [] [] G G := Fr.rf
  have hl := lv_entry ([.ref (z.1 0), .int p0, .int p1]) (n := 3) (Nat.le_of_ble_eq_true rfl)
  rw [lg_entry_eq]
  generalize (lg_sl ([.ref (z.1 0), .int p0, .int p1]) ++ List.replicate (3 - (lg_sl ([.ref (z.1 0), .int p0, .int p1])).length) Slot.unset).toArray = ls at hl ⊢
  have hl : lv_has ls 3 [(0, .ref (z.1 0)), (1, .int p0), (2, .int p1)] := hl
  refine lv_aload_n hx hb dJ0_indexOf_7cf53_0 rfl (lv_at hl 0 rfl) ?_
  refine S_calli (va_runV (As := []) (rest := []) ⟨hx, hb, hml, hown, hts⟩ (k_jLat_0 l D k A a z G  ) (cwV 0 hts (gd_V hgd m669 m670 m671 m133 m672) rfl rfl rfl hd_J0_isLatin1_aae02 ⟨Nat.le_of_ble_eq_true rfl, Nat.le_of_ble_eq_true rfl⟩) (pre_VS hW hB_G hK hZ hS 0 (by decide)) rfl rfl hl.1 rfl (lv_room (Nat.le_of_ble_eq_true rfl)) dJ0_indexOf_7cf53_1 ⟨Nat.le_of_ble_eq_true rfl, Nat.le_of_ble_eq_true rfl⟩) hS (fun r_1 G_2 H locs hpo hW hS => ?_)
  have hX_5 : P_jLat_0 G r_1 G_2 := hpo
  obtain ⟨hB_G_2, hq_3, f_6, -⟩ := hpo
  have hF := hF.call9 hq_3 rfl rfl
  refine lv_if_eq (tgt := 23) hx hb dJ0_indexOf_7cf53_4 rfl (fun c_7 => ?_) (fun c_7 => ?_)
  · have c_7 : r_1.toInt = 0 := xI_eq rfl rfl c_7
    exfalso; omega
  · have c_7 : r_1.toInt ≠ 0 := xI_ne rfl rfl c_7
    refine lv_aload_n hx hb dJ0_indexOf_7cf53_7 rfl (lv_at hl 0 rfl) ?_
    refine vk_getf hx hb (hZ.1.1 0 (by decide)).2.2.1 hS hown (hg (Cond.fieldLink "java/lang/String" 9 "java/lang/String" "value" "[B") m2081) (fun _ h9 => h9) dJ0_indexOf_7cf53_8 ?_
    refine lv_iload_n hx hb dJ0_indexOf_7cf53_11 rfl (lv_at hl 1 rfl) ?_
    refine lv_iload_n hx hb dJ0_indexOf_7cf53_12 rfl (lv_at hl 2 rfl) ?_
    refine lv_aload_n hx hb dJ0_indexOf_7cf53_13 rfl (lv_at hl 0 rfl) ?_
    refine S_calli (va_runV (As := []) (rest := [.int p1, .int p0, .ref (z.2 0)]) ⟨hx, hb, hml, hown, hts⟩ (k_jLen_0 l D k A a z G_2  ) (cwV 0 hts (gd_V hgd m720 m656 m657 m133 m658) rfl rfl rfl hd_J0_length_8abf5 ⟨Nat.le_of_ble_eq_true rfl, Nat.le_of_ble_eq_true rfl⟩) (pre_VS hW hB_G_2 hK hZ hS 0 (by decide)) rfl rfl hl.1 rfl (lv_room (Nat.le_of_ble_eq_true rfl)) dJ0_indexOf_7cf53_14 ⟨Nat.le_of_ble_eq_true rfl, Nat.le_of_ble_eq_true rfl⟩) hS (fun r_8 G_9 H locs hpo hW hS => ?_)
    have hX_12 : P_jLen_0 G_2 r_8 G_9 := hpo
    obtain ⟨hB_G_9, hq_10, f_13, -⟩ := hpo
    have hF := hF.call9 hq_10 rfl rfl
    refine S_calli (va_runS (As := [.ref (z.2 0), .int p0, .int p1, .int r_8]) (rest := []) ⟨hx, hb, hml, hown, hts⟩ (k_jLIdx_0 l D k A a z G_9 p0 p1 r_8 ⟨(by first | (clear f_6 c_7 f_13; omega) | omega), (by first | (clear f_6 c_7 f_13; omega) | omega)⟩ ⟨(by first | (clear ha_p1 f_6 c_7; omega) | omega), (by first | (clear ha_p1 f_6 c_7; omega) | omega)⟩) (va_cwS 4 hts (gd_S hgd m721 m722 m134 m723) rfl rfl rfl hd_J1_indexOf_4cfef.2 ⟨Nat.le_of_ble_eq_true rfl, Nat.le_of_ble_eq_true rfl⟩) (pre_S hW hB_G_9 hK hZ hS) rfl rfl hl.1 rfl (lv_room (Nat.le_of_ble_eq_true rfl)) dJ0_indexOf_7cf53_17 ⟨Nat.le_of_ble_eq_true rfl, Nat.le_of_ble_eq_true rfl⟩) hS (fun r_14 G_15 H locs hpo hW hS => ?_)
    have hX_18 : P_jLIdx_0 p0 p1 r_8 G_9 r_14 G_15 := hpo
    obtain ⟨hB_G_15, hq_16, -⟩ := hpo
    have hF := hF.call9 hq_16 rfl rfl
    refine lv_goto (tgt := 36) hx hb dJ0_indexOf_7cf53_20 rfl ?_
    exact W.iret (v := r_14) hx hb hr (fun t ht _ => ⟨⟨r_14, G_15, rfl, (P_jIdx2_0_mk ⟨hB_G_15, hF, ⟨r_1, G_2, hX_5, ⟨r_8, G_9, hX_12, ⟨r_14, G_15, hX_18, ⟨rfl, rfl⟩⟩⟩⟩⟩), wd_t ht hW⟩, hS.F ht⟩) hS.2.2 dJ0_indexOf_7cf53_36

set_option maxHeartbeats 4000000 in
set_option maxRecDepth 100000 in
theorem k_jIdx_0 (l : Launch) (D : va_G) (k : KT) (A : Nat → Prop) (a : Nat → Nat) (z : SK) (G : GS) (p0 : Int32)  : Met l yJ0_indexOf_0f7a4 (WS yJ0_indexOf_0f7a4 cJ0_indexOf_0f7a4 2 (some .int)) ({ frames := 3, cells := 0, slots := 0, locals := 70 }) (va_Pc [.ref (z.1 0), .int p0] (cW D k A a z G)) (va_Qi (fun (r : Int32) (G1 : GS) => P_jIdx_0 p0 G r G1) (fun (G1 : GS) t => Wd D k A a G1 t.heap) A) 0 0 A := by
  refine Met.ofW (cc := cJ0_indexOf_0f7a4) (maxL := 2) (ret := (some .int)) (by decide) rfl ?_
  intro p e s m args below meth c s₁ B hml hv
  obtain ⟨rfl, hW, hB_G, hK, hZ⟩ := hv
  have hx := B.exec
  have hb := B.bytes
  have hr := B.returns
  have hts := atoms_spec (ws := WS yJ0_indexOf_0f7a4 cJ0_indexOf_0f7a4 2 (some .int)) B.pre
  have hgd : ∀ w ∈ gd, w ∈ WS yJ0_indexOf_0f7a4 cJ0_indexOf_0f7a4 2 (some .int) := fun w h => List.mem_cons_of_mem _ h
  have hg : ∀ w ∈ gd, w.before _ s = true := fun w h => hts w (hgd w h)
  have hown : s.vm.findClass RJ0 = some m.cls := findClass_of_methodNamed B.named
  have hS : va_S A s.heap s.heap [] := va_S.rf
  have hF : Fr [] [] G G := Fr.rf
  have hl := lv_entry ([.ref (z.1 0), .int p0]) (n := 2) (Nat.le_of_ble_eq_true rfl)
  rw [lg_entry_eq]
  generalize (lg_sl ([.ref (z.1 0), .int p0]) ++ List.replicate (2 - (lg_sl ([.ref (z.1 0), .int p0])).length) Slot.unset).toArray = ls at hl ⊢
  have hl : lv_has ls 2 [(0, .ref (z.1 0)), (1, .int p0)] := hl
  refine lv_aload_n hx hb dJ0_indexOf_0f7a4_0 rfl (lv_at hl 0 rfl) ?_
  refine lv_iload_n hx hb dJ0_indexOf_0f7a4_1 rfl (lv_at hl 1 rfl) ?_
  refine ic_0 hx hb dJ0_indexOf_0f7a4_2 ?_
  refine S_calli (va_runV (As := [.int p0, .int 0]) (rest := []) ⟨hx, hb, hml, hown, hts⟩ (k_jIdx2_0 l D k A a z G p0 0 ⟨by decide, by decide⟩) (cwV 2 hts (gd_V hgd m716 m717 m718 m133 m719) rfl rfl rfl hd_J0_indexOf_7cf53 ⟨Nat.le_of_ble_eq_true rfl, Nat.le_of_ble_eq_true rfl⟩) (pre_VS hW hB_G hK hZ hS 0 (by decide)) rfl rfl hl.1 rfl (lv_room (Nat.le_of_ble_eq_true rfl)) dJ0_indexOf_0f7a4_3 ⟨Nat.le_of_ble_eq_true rfl, Nat.le_of_ble_eq_true rfl⟩) hS (fun r_1 G_2 H locs hpo hW hS => ?_)
  have hX_5 : P_jIdx2_0 p0 0 G r_1 G_2 := hpo
  obtain ⟨hB_G_2, hq_3, -⟩ := hpo
  have hF := hF.call9 hq_3 rfl rfl
  exact W.iret (v := r_1) hx hb hr (fun t ht _ => ⟨⟨r_1, G_2, rfl, (P_jIdx_0_mk ⟨hB_G_2, hF, ⟨r_1, G_2, hX_5, ⟨rfl, rfl⟩⟩⟩), wd_t ht hW⟩, hS.F ht⟩) hS.2.2 dJ0_indexOf_0f7a4_6

set_option maxHeartbeats 4000000 in
set_option maxRecDepth 100000 in
theorem k_jLat_1 (l : Launch) (D : va_G) (k : KT) (A : Nat → Prop) (a : Nat → Nat) (z : SK) (G : GS)   : Met l yJ0_isLatin1_aae02 (WS yJ0_isLatin1_aae02 cJ0_isLatin1_aae02 1 (some .boolean)) ({ frames := 0, cells := 0, slots := 0, locals := 0 }) (va_Pc [.ref (z.1 1)] (cW D k A a z G)) (va_Qi (fun (r : Int32) (G1 : GS) => P_jLat_1 G r G1) (fun (G1 : GS) t => Wd D k A a G1 t.heap) A) 0 0 A := by
  refine Met.ofW (cc := cJ0_isLatin1_aae02) (maxL := 1) (ret := (some .boolean)) (by decide) rfl ?_
  intro p e s m args below meth c s₁ B hml hv
  obtain ⟨rfl, hW, hB_G, hK, hZ⟩ := hv
  have hx := B.exec
  have hb := B.bytes
  have hr := B.returns
  have hts := atoms_spec (ws := WS yJ0_isLatin1_aae02 cJ0_isLatin1_aae02 1 (some .boolean)) B.pre
  have hgd : ∀ w ∈ gd, w ∈ WS yJ0_isLatin1_aae02 cJ0_isLatin1_aae02 1 (some .boolean) := fun w h => List.mem_cons_of_mem _ h
  have hg : ∀ w ∈ gd, w.before _ s = true := fun w h => hts w (hgd w h)
  have hown : s.vm.findClass RJ0 = some m.cls := findClass_of_methodNamed B.named
  have hS : va_S A s.heap s.heap [] := va_S.rf
  have hF : Fr [] [] G G := Fr.rf
  have hl := lv_entry ([.ref (z.1 1)]) (n := 1) (Nat.le_of_ble_eq_true rfl)
  rw [lg_entry_eq]
  generalize (lg_sl ([.ref (z.1 1)]) ++ List.replicate (1 - (lg_sl ([.ref (z.1 1)])).length) Slot.unset).toArray = ls at hl ⊢
  have hl : lv_has ls 1 [(0, .ref (z.1 1))] := hl
  refine va_gets hx hb hZ.2.2.2.1 hS hown (hg (Cond.fieldLink "java/lang/String" 38 "java/lang/String" "COMPACT_STRINGS" "Z") m663) (fun _ h9 => h9) dJ0_isLatin1_aae02_0 ?_
  refine lv_if_eq (tgt := 17) hx hb dJ0_isLatin1_aae02_3 rfl (fun c_1 => ?_) (fun c_1 => ?_)
  · have c_1 : (1 : Int) = (0 : Int) := xI_eq rfl rfl c_1
    exfalso; omega
  · have c_1 : (1 : Int) ≠ (0 : Int) := xI_ne rfl rfl c_1
    refine lv_aload_n hx hb dJ0_isLatin1_aae02_6 rfl (lv_at hl 0 rfl) ?_
    refine vk_getf hx hb (hZ.1.1 1 (by decide)).2.1 hS hown (hg (Cond.fieldLink "java/lang/String" 15 "java/lang/String" "coder" "B") m2082) (fun _ h9 => h9) dJ0_isLatin1_aae02_7 ?_
    refine lv_if_ne (tgt := 17) hx hb dJ0_isLatin1_aae02_10 rfl (fun c_2 => ?_) (fun c_2 => ?_)
    · have c_2 : (0 : Int) ≠ (0 : Int) := xI_ne rfl rfl c_2
      exfalso; omega
    · have c_2 : (0 : Int) = (0 : Int) := xI_eq rfl rfl c_2
      refine ic_1 hx hb dJ0_isLatin1_aae02_13 ?_
      refine lv_goto (tgt := 18) hx hb dJ0_isLatin1_aae02_14 rfl ?_
      exact W.zret (v := 1) hx hb hr (by decide) (fun t ht _ => ⟨⟨1, G, rfl, (P_jLat_1_mk ⟨hB_G, hF, ⟨by decide, by decide⟩, ⟨rfl, rfl⟩⟩), wd_t ht hW⟩, hS.F ht⟩) hS.2.2 dJ0_isLatin1_aae02_18

set_option maxHeartbeats 4000000 in
set_option maxRecDepth 100000 in
theorem k_jCoder_1 (l : Launch) (D : va_G) (k : KT) (A : Nat → Prop) (a : Nat → Nat) (z : SK) (G : GS)   : Met l yJ0_coder_7d493 (WS yJ0_coder_7d493 cJ0_coder_7d493 1 (some .byte)) ({ frames := 0, cells := 0, slots := 0, locals := 0 }) (va_Pc [.ref (z.1 1)] (cW D k A a z G)) (va_Qi (fun (r : Int32) (G1 : GS) => P_jCoder_1 G r G1) (fun (G1 : GS) t => Wd D k A a G1 t.heap) A) 0 0 A := by
  refine Met.ofW (cc := cJ0_coder_7d493) (maxL := 1) (ret := (some .byte)) (by decide) rfl ?_
  intro p e s m args below meth c s₁ B hml hv
  obtain ⟨rfl, hW, hB_G, hK, hZ⟩ := hv
  have hx := B.exec
  have hb := B.bytes
  have hr := B.returns
  have hts := atoms_spec (ws := WS yJ0_coder_7d493 cJ0_coder_7d493 1 (some .byte)) B.pre
  have hgd : ∀ w ∈ gd, w ∈ WS yJ0_coder_7d493 cJ0_coder_7d493 1 (some .byte) := fun w h => List.mem_cons_of_mem _ h
  have hg : ∀ w ∈ gd, w.before _ s = true := fun w h => hts w (hgd w h)
  have hown : s.vm.findClass RJ0 = some m.cls := findClass_of_methodNamed B.named
  have hS : va_S A s.heap s.heap [] := va_S.rf
  have hF : Fr [] [] G G := Fr.rf
  have hl := lv_entry ([.ref (z.1 1)]) (n := 1) (Nat.le_of_ble_eq_true rfl)
  rw [lg_entry_eq]
  generalize (lg_sl ([.ref (z.1 1)]) ++ List.replicate (1 - (lg_sl ([.ref (z.1 1)])).length) Slot.unset).toArray = ls at hl ⊢
  have hl : lv_has ls 1 [(0, .ref (z.1 1))] := hl
  refine va_gets hx hb hZ.2.2.2.1 hS hown (hg (Cond.fieldLink "java/lang/String" 38 "java/lang/String" "COMPACT_STRINGS" "Z") m663) (fun _ h9 => h9) dJ0_coder_7d493_0 ?_
  refine lv_if_eq (tgt := 13) hx hb dJ0_coder_7d493_3 rfl (fun c_1 => ?_) (fun c_1 => ?_)
  · have c_1 : (1 : Int) = (0 : Int) := xI_eq rfl rfl c_1
    exfalso; omega
  · have c_1 : (1 : Int) ≠ (0 : Int) := xI_ne rfl rfl c_1
    refine lv_aload_n hx hb dJ0_coder_7d493_6 rfl (lv_at hl 0 rfl) ?_
    refine vk_getf hx hb (hZ.1.1 1 (by decide)).2.1 hS hown (hg (Cond.fieldLink "java/lang/String" 15 "java/lang/String" "coder" "B") m2082) (fun _ h9 => h9) dJ0_coder_7d493_7 ?_
    refine lv_goto (tgt := 14) hx hb dJ0_coder_7d493_10 rfl ?_
    exact W.zret (v := 0) hx hb hr (by decide) (fun t ht _ => ⟨⟨0, G, rfl, (P_jCoder_1_mk ⟨hB_G, hF, ⟨by decide, by decide⟩, ⟨rfl, rfl⟩⟩), wd_t ht hW⟩, hS.F ht⟩) hS.2.2 dJ0_coder_7d493_14

set_option maxHeartbeats 4000000 in
set_option maxRecDepth 100000 in
theorem k_jLen_1 (l : Launch) (D : va_G) (k : KT) (A : Nat → Prop) (a : Nat → Nat) (z : SK) (G : GS)   : Met l yJ0_length_8abf5 (WS yJ0_length_8abf5 cJ0_length_8abf5 1 (some .int)) ({ frames := 1, cells := 0, slots := 0, locals := 20 }) (va_Pc [.ref (z.1 1)] (cW D k A a z G)) (va_Qi (fun (r : Int32) (G1 : GS) => P_jLen_1 G r G1) (fun (G1 : GS) t => Wd D k A a G1 t.heap) A) 0 0 A := by
  refine Met.ofW (cc := cJ0_length_8abf5) (maxL := 1) (ret := (some .int)) (by decide) rfl ?_
  intro p e s m args below meth c s₁ B hml hv
  obtain ⟨rfl, hW, hB_G, hK, hZ⟩ := hv
  have hx := B.exec
  have hb := B.bytes
  have hr := B.returns
  have hts := atoms_spec (ws := WS yJ0_length_8abf5 cJ0_length_8abf5 1 (some .int)) B.pre
  have hgd : ∀ w ∈ gd, w ∈ WS yJ0_length_8abf5 cJ0_length_8abf5 1 (some .int) := fun w h => List.mem_cons_of_mem _ h
  have hg : ∀ w ∈ gd, w.before _ s = true := fun w h => hts w (hgd w h)
  have hown : s.vm.findClass RJ0 = some m.cls := findClass_of_methodNamed B.named
  have hS : va_S A s.heap s.heap [] := va_S.rf
  have hF : Fr [] [] G G := Fr.rf
  have hl := lv_entry ([.ref (z.1 1)]) (n := 1) (Nat.le_of_ble_eq_true rfl)
  rw [lg_entry_eq]
  generalize (lg_sl ([.ref (z.1 1)]) ++ List.replicate (1 - (lg_sl ([.ref (z.1 1)])).length) Slot.unset).toArray = ls at hl ⊢
  have hl : lv_has ls 1 [(0, .ref (z.1 1))] := hl
  refine lv_aload_n hx hb dJ0_length_8abf5_0 rfl (lv_at hl 0 rfl) ?_
  refine vk_getf hx hb (hZ.1.1 1 (by decide)).2.2.1 hS hown (hg (Cond.fieldLink "java/lang/String" 9 "java/lang/String" "value" "[B") m2081) (fun _ h9 => h9) dJ0_length_8abf5_1 ?_
  refine va_tlen (v := 11) hx hb (hZ.1.1 1 (by decide)).2.2.2 hS rfl dJ0_length_8abf5_4 ?_
  refine lv_aload_n hx hb dJ0_length_8abf5_5 rfl (lv_at hl 0 rfl) ?_
  refine S_calli (va_runV (As := []) (rest := [.int 11]) ⟨hx, hb, hml, hown, hts⟩ (k_jCoder_1 l D k A a z G  ) (cwV 0 hts (gd_V hgd m659 m660 m661 m133 m662) rfl rfl rfl hd_J0_coder_7d493 ⟨Nat.le_of_ble_eq_true rfl, Nat.le_of_ble_eq_true rfl⟩) (pre_VS hW hB_G hK hZ hS 1 (by decide)) rfl rfl hl.1 rfl (lv_room (Nat.le_of_ble_eq_true rfl)) dJ0_length_8abf5_6 ⟨Nat.le_of_ble_eq_true rfl, Nat.le_of_ble_eq_true rfl⟩) hS (fun r_1 G_2 H locs hpo hW hS => ?_)
  have hX_5 : P_jCoder_1 G r_1 G_2 := hpo
  obtain ⟨hB_G_2, hq_3, f_6, -⟩ := hpo
  have hF := hF.call9 hq_3 rfl rfl
  refine lv_ishr hx hb dJ0_length_8abf5_9 ?_
  refine lv_topi (fun y_7 ey_7 => ?_)
  have ty_7 : y_7.toInt = 11 := sh0 ey_7 (by omega) rfl
  exact W.iret (v := y_7) hx hb hr (fun t ht _ => ⟨⟨y_7, G_2, rfl, (P_jLen_1_mk ⟨hB_G_2, hF, ⟨by omega, by omega⟩, ⟨r_1, G_2, hX_5, ⟨y_7, ey_7, ⟨rfl, rfl⟩⟩⟩⟩), wd_t ht hW⟩, hS.F ht⟩) hS.2.2 dJ0_length_8abf5_10

set_option maxHeartbeats 4000000 in
set_option maxRecDepth 100000 in
theorem k_jLCharAt_1 (l : Launch) (D : va_G) (k : KT) (A : Nat → Prop) (a : Nat → Nat) (z : SK) (G : GS) (p0 : Int32) (ha_p0 : 0 ≤ p0.toInt ∧ p0.toInt ≤ 10) : Met l yJ1_charAt_3b067 (WS yJ1_charAt_3b067 cJ1_charAt_3b067 2 (some .char)) ({ frames := 2, cells := 0, slots := 0, locals := 43 }) (va_Pc [.ref (z.2 1), .int p0] (cW D k A a z G)) (va_Qi (fun (r : Int32) (G1 : GS) => P_jLCharAt_1 p0 G r G1) (fun (G1 : GS) t => Wd D k A a G1 t.heap) A) 0 0 A := by
  refine Met.ofW (cc := cJ1_charAt_3b067) (maxL := 2) (ret := (some .char)) (by decide) rfl ?_
  intro p e s m args below meth c s₁ B hml hv
  obtain ⟨rfl, hW, hB_G, hK, hZ⟩ := hv
  have hx := B.exec
  have hb := B.bytes
  have hr := B.returns
  have hts := atoms_spec (ws := WS yJ1_charAt_3b067 cJ1_charAt_3b067 2 (some .char)) B.pre
  have hgd : ∀ w ∈ gd, w ∈ WS yJ1_charAt_3b067 cJ1_charAt_3b067 2 (some .char) := fun w h => List.mem_cons_of_mem _ h
  have hg : ∀ w ∈ gd, w.before _ s = true := fun w h => hts w (hgd w h)
  have hown : s.vm.findClass RJ1 = some m.cls := findClass_of_methodNamed B.named
  have hS : va_S A s.heap s.heap [] := va_S.rf
  have hF : Fr [] [] G G := Fr.rf
  have hl := lv_entry ([.ref (z.2 1), .int p0]) (n := 2) (Nat.le_of_ble_eq_true rfl)
  rw [lg_entry_eq]
  generalize (lg_sl ([.ref (z.2 1), .int p0]) ++ List.replicate (2 - (lg_sl ([.ref (z.2 1), .int p0])).length) Slot.unset).toArray = ls at hl ⊢
  have hl : lv_has ls 2 [(0, .ref (z.2 1)), (1, .int p0)] := hl
  refine lv_iload_n hx hb dJ1_charAt_3b067_0 rfl (lv_at hl 1 rfl) ?_
  refine lv_aload_n hx hb dJ1_charAt_3b067_1 rfl (lv_at hl 0 rfl) ?_
  refine va_tlen (v := 11) hx hb (hZ.1.1 1 (by decide)).2.2.2 hS rfl dJ1_charAt_3b067_2 ?_
  have qc_1 : (11 : Int32).toInt = 11 := rfl
  refine S_callv (va_runS (As := [.int p0, .int 11]) (rest := []) ⟨hx, hb, hml, hown, hts⟩ (k_jCheck l D k A a z G p0 11 ((by first | exact ⟨(by omega), (by omega)⟩ | omega))) (va_cwS 2 hts (gd_S hgd m676 m677 m133 m678) rfl rfl rfl hd_J0_checkIndex_df160.2 ⟨Nat.le_of_ble_eq_true rfl, Nat.le_of_ble_eq_true rfl⟩) (pre_S hW hB_G hK hZ hS) rfl rfl hl.1 rfl (lv_room (Nat.le_of_ble_eq_true rfl)) dJ1_charAt_3b067_3 ⟨Nat.le_of_ble_eq_true rfl, Nat.le_of_ble_eq_true rfl⟩) hS (fun G_3 H locs hpo hW hS => ?_)
  obtain ⟨hB_G_3, hq_4⟩ := hpo
  have hF := hF.call9 hq_4 rfl rfl
  refine lv_aload_n hx hb dJ1_charAt_3b067_6 rfl (lv_at hl 0 rfl) ?_
  refine lv_iload_n hx hb dJ1_charAt_3b067_7 rfl (lv_at hl 1 rfl) ?_
  refine va_tb hx hb (hZ.1.1 1 (by decide)).2.2.2 hS (vin (n := 11) (by omega) (by omega)) rfl dJ1_charAt_3b067_8 ?_
  refine lv_topi (fun y_7 ey_7 => ?_)
  refine lv_sipush (v := 255) hx hb dJ1_charAt_3b067_9 (by decide) ?_
  refine lv_iand hx hb dJ1_charAt_3b067_12 ?_
  refine lv_topi (fun y_8 ey_8 => ?_)
  have ty_8 := xI_and (Y := 255) rfl ey_8 (by decide)
  refine lv_i2c hx hb dJ1_charAt_3b067_13 rfl ?_
  refine lv_topi (fun y_9 ey_9 => ?_)
  have ty_9 := i2c_ok ey_9 (by omega) (by omega)
  exact W.zret (v := y_9) hx hb hr (nar_c (by omega) (by omega)) (fun t ht _ => ⟨⟨y_9, G_3, rfl, (P_jLCharAt_1_mk ⟨hB_G_3, hF, ⟨by omega, by omega⟩, ⟨G_3, hB_G_3, hq_4, ⟨y_7, ey_7, ⟨y_8, ey_8, ⟨y_9, ey_9, ⟨rfl, rfl⟩⟩⟩⟩⟩⟩), wd_t ht hW⟩, hS.F ht⟩) hS.2.2 dJ1_charAt_3b067_14

set_option maxHeartbeats 4000000 in
set_option maxRecDepth 100000 in
theorem k_jCharAt_1 (l : Launch) (D : va_G) (k : KT) (A : Nat → Prop) (a : Nat → Nat) (z : SK) (G : GS) (p0 : Int32) (ha_p0 : 0 ≤ p0.toInt ∧ p0.toInt ≤ 10) : Met l yJ0_charAt_5068e (WS yJ0_charAt_5068e cJ0_charAt_5068e 2 (some .char)) ({ frames := 3, cells := 0, slots := 0, locals := 64 }) (va_Pc [.ref (z.1 1), .int p0] (cW D k A a z G)) (va_Qi (fun (r : Int32) (G1 : GS) => P_jCharAt_1 p0 G r G1) (fun (G1 : GS) t => Wd D k A a G1 t.heap) A) 0 0 A := by
  refine Met.ofW (cc := cJ0_charAt_5068e) (maxL := 2) (ret := (some .char)) (by decide) rfl ?_
  intro p e s m args below meth c s₁ B hml hv
  obtain ⟨rfl, hW, hB_G, hK, hZ⟩ := hv
  have hx := B.exec
  have hb := B.bytes
  have hr := B.returns
  have hts := atoms_spec (ws := WS yJ0_charAt_5068e cJ0_charAt_5068e 2 (some .char)) B.pre
  have hgd : ∀ w ∈ gd, w ∈ WS yJ0_charAt_5068e cJ0_charAt_5068e 2 (some .char) := fun w h => List.mem_cons_of_mem _ h
  have hg : ∀ w ∈ gd, w.before _ s = true := fun w h => hts w (hgd w h)
  have hown : s.vm.findClass RJ0 = some m.cls := findClass_of_methodNamed B.named
  have hS : va_S A s.heap s.heap [] := va_S.rf
  have hF : Fr [] [] G G := Fr.rf
  have hl := lv_entry ([.ref (z.1 1), .int p0]) (n := 2) (Nat.le_of_ble_eq_true rfl)
  rw [lg_entry_eq]
  generalize (lg_sl ([.ref (z.1 1), .int p0]) ++ List.replicate (2 - (lg_sl ([.ref (z.1 1), .int p0])).length) Slot.unset).toArray = ls at hl ⊢
  have hl : lv_has ls 2 [(0, .ref (z.1 1)), (1, .int p0)] := hl
  refine lv_aload_n hx hb dJ0_charAt_5068e_0 rfl (lv_at hl 0 rfl) ?_
  refine S_calli (va_runV (As := []) (rest := []) ⟨hx, hb, hml, hown, hts⟩ (k_jLat_1 l D k A a z G  ) (cwV 0 hts (gd_V hgd m669 m670 m671 m133 m672) rfl rfl rfl hd_J0_isLatin1_aae02 ⟨Nat.le_of_ble_eq_true rfl, Nat.le_of_ble_eq_true rfl⟩) (pre_VS hW hB_G hK hZ hS 1 (by decide)) rfl rfl hl.1 rfl (lv_room (Nat.le_of_ble_eq_true rfl)) dJ0_charAt_5068e_1 ⟨Nat.le_of_ble_eq_true rfl, Nat.le_of_ble_eq_true rfl⟩) hS (fun r_1 G_2 H locs hpo hW hS => ?_)
  have hX_5 : P_jLat_1 G r_1 G_2 := hpo
  obtain ⟨hB_G_2, hq_3, f_6, -⟩ := hpo
  have hF := hF.call9 hq_3 rfl rfl
  refine lv_if_eq (tgt := 16) hx hb dJ0_charAt_5068e_4 rfl (fun c_7 => ?_) (fun c_7 => ?_)
  · have c_7 : r_1.toInt = 0 := xI_eq rfl rfl c_7
    exfalso; omega
  · have c_7 : r_1.toInt ≠ 0 := xI_ne rfl rfl c_7
    refine lv_aload_n hx hb dJ0_charAt_5068e_7 rfl (lv_at hl 0 rfl) ?_
    refine vk_getf hx hb (hZ.1.1 1 (by decide)).2.2.1 hS hown (hg (Cond.fieldLink "java/lang/String" 9 "java/lang/String" "value" "[B") m2081) (fun _ h9 => h9) dJ0_charAt_5068e_8 ?_
    refine lv_iload_n hx hb dJ0_charAt_5068e_11 rfl (lv_at hl 1 rfl) ?_
    refine S_calli (va_runS (As := [.ref (z.2 1), .int p0]) (rest := []) ⟨hx, hb, hml, hown, hts⟩ (k_jLCharAt_1 l D k A a z G_2 p0 ⟨by omega, by omega⟩) (va_cwS 2 hts (gd_S hgd m673 m674 m134 m675) rfl rfl rfl hd_J1_charAt_3b067.2 ⟨Nat.le_of_ble_eq_true rfl, Nat.le_of_ble_eq_true rfl⟩) (pre_S hW hB_G_2 hK hZ hS) rfl rfl hl.1 rfl (lv_room (Nat.le_of_ble_eq_true rfl)) dJ0_charAt_5068e_12 ⟨Nat.le_of_ble_eq_true rfl, Nat.le_of_ble_eq_true rfl⟩) hS (fun r_8 G_9 H locs hpo hW hS => ?_)
    have hX_12 : P_jLCharAt_1 p0 G_2 r_8 G_9 := hpo
    obtain ⟨hB_G_9, hq_10, f_13, -⟩ := hpo
    have hF := hF.call9 hq_10 rfl rfl
    exact W.zret (v := r_8) hx hb hr (nar_c (by omega) (by omega)) (fun t ht _ => ⟨⟨r_8, G_9, rfl, (P_jCharAt_1_mk ⟨hB_G_9, hF, ⟨(by first | (clear ha_p0 f_6 c_7; omega) | omega), (by first | (clear ha_p0 f_6 c_7; omega) | omega)⟩, ⟨r_1, G_2, hX_5, ⟨r_8, G_9, hX_12, ⟨rfl, rfl⟩⟩⟩⟩), wd_t ht hW⟩, hS.F ht⟩) hS.2.2 dJ0_charAt_5068e_15

set_option maxHeartbeats 4000000 in
set_option maxRecDepth 100000 in
theorem k_jLIdxC_1 (l : Launch) (D : va_G) (k : KT) (A : Nat → Prop) (a : Nat → Nat) (z : SK) (G : GS) (p0 : Int32) (p1 : Int32) (p2 : Int32) (ha_p1 : 0 ≤ p1.toInt ∧ p1.toInt ≤ 0) (ha_p2 : 11 ≤ p2.toInt ∧ p2.toInt ≤ 11) : Met l yJ1_indexOfChar_4cfef (WS yJ1_indexOfChar_4cfef cJ1_indexOfChar_4cfef 6 (some .int)) ({ frames := 0, cells := 0, slots := 0, locals := 0 }) (va_Pc [.ref (z.2 1), .int p0, .int p1, .int p2] (cW D k A a z G)) (va_Qi (fun (r : Int32) (G1 : GS) => P_jLIdxC_1 p0 p1 p2 G r G1) (fun (G1 : GS) t => Wd D k A a G1 t.heap) A) 0 0 A := by
  refine Met.ofW (cc := cJ1_indexOfChar_4cfef) (maxL := 6) (ret := (some .int)) (by decide) rfl ?_
  intro p e s m args below meth c s₁ B hml hv
  obtain ⟨rfl, hW, hB_G, hK, hZ⟩ := hv
  have hx := B.exec
  have hb := B.bytes
  have hr := B.returns
  have hts := atoms_spec (ws := WS yJ1_indexOfChar_4cfef cJ1_indexOfChar_4cfef 6 (some .int)) B.pre
  have hgd : ∀ w ∈ gd, w ∈ WS yJ1_indexOfChar_4cfef cJ1_indexOfChar_4cfef 6 (some .int) := fun w h => List.mem_cons_of_mem _ h
  have hg : ∀ w ∈ gd, w.before _ s = true := fun w h => hts w (hgd w h)
  have hown : s.vm.findClass RJ1 = some m.cls := findClass_of_methodNamed B.named
  have hS : va_S A s.heap s.heap [] := va_S.rf
  have hF : Fr [] [] G G := Fr.rf
  have hl := lv_entry ([.ref (z.2 1), .int p0, .int p1, .int p2]) (n := 6) (Nat.le_of_ble_eq_true rfl)
  rw [lg_entry_eq]
  generalize (lg_sl ([.ref (z.2 1), .int p0, .int p1, .int p2]) ++ List.replicate (6 - (lg_sl ([.ref (z.2 1), .int p0, .int p1, .int p2])).length) Slot.unset).toArray = ls at hl ⊢
  have hl : lv_has ls 6 [(0, .ref (z.2 1)), (1, .int p0), (2, .int p1), (3, .int p2)] := hl
  refine lv_iload_n hx hb dJ1_indexOfChar_4cfef_0 rfl (lv_at hl 1 rfl) ?_
  refine lv_i2b hx hb dJ1_indexOfChar_4cfef_1 rfl ?_
  refine lv_topi (fun y_1 ey_1 => ?_)
  refine lv_istore (lv' := [(4, .int y_1), (0, .ref (z.2 1)), (1, .int p0), (2, .int p1), (3, .int p2)]) hx hb dJ1_indexOfChar_4cfef_2 hl (lt_b rfl) rfl (fun ls hl => ?_)
  refine lv_iload_n hx hb dJ1_indexOfChar_4cfef_4 rfl (lv_at hl 3 rfl) ?_
  refine lv_istore (lv' := [(5, .int p1), (4, .int y_1), (0, .ref (z.2 1)), (1, .int p0), (2, .int p1), (3, .int p2)]) hx hb dJ1_indexOfChar_4cfef_5 hl (lt_b rfl) rfl (fun ls hl => ?_)
  refine loop_N (Inv := fun n H locs ls => ∃ (G_2 : GS) (x_6 : Int32), (n : Int) = 11 - x_6.toInt ∧ (0 ≤ x_6.toInt ∧ x_6.toInt ≤ 11) ∧ Rc (St_k_jLIdxC_1_1 p2 y_1) (p1, G) (x_6, G_2) ∧ Wd D k A a G_2 H ∧ Bd G_2 ∧ Fr [] [] G G_2 ∧ Fr [] [] G G_2 ∧ va_S A s.heap H locs ∧ lv_has ls 6 [(5, .int x_6), (4, .int y_1), (0, .ref (z.2 1)), (3, .int p2)]) (fun n_5 H locs ls ih_4 hI => ?_) (11 - p1.toInt : Int).toNat ⟨G, p1, (Int.toNat_of_nonneg (by omega)), ⟨by omega, by omega⟩, Rc.rf, hW, hB_G, hF, Fr.rf, hS, lv_sub hl [0, 1, 2, 5] rfl⟩
  obtain ⟨G_2, x_6, hn_9, f_8, hX_7, hW, hB_G_2, hF, hq_3, hS, hl⟩ := hI
  refine lv_iload hx hb dJ1_indexOfChar_4cfef_7 (lv_at hl 0 rfl) ?_
  refine lv_iload_n hx hb dJ1_indexOfChar_4cfef_9 rfl (lv_at hl 3 rfl) ?_
  refine lv_icmp_ge (tgt := 31) hx hb dJ1_indexOfChar_4cfef_10 rfl (fun c_10 => ?_) (fun c_10 => ?_)
  · have c_10 : p2.toInt ≤ x_6.toInt := xI_le rfl rfl c_10
    refine ic_m1 hx hb dJ1_indexOfChar_4cfef_31 ?_
    exact W.iret (v := (-1)) hx hb hr (fun t ht _ => ⟨⟨(-1), G_2, rfl, (P_jLIdxC_1_mk ⟨hB_G_2, hF, ⟨y_1, ey_1, ⟨x_6, G_2, hX_7, f_8, hB_G_2, hq_3, (Or.inl ⟨c_10, ⟨rfl, rfl⟩⟩)⟩⟩⟩), wd_t ht hW⟩, hS.F ht⟩) hS.2.2 dJ1_indexOfChar_4cfef_32
  · have c_10 : x_6.toInt < p2.toInt := xI_nle rfl rfl c_10
    refine lv_aload_n hx hb dJ1_indexOfChar_4cfef_13 rfl (lv_at hl 2 rfl) ?_
    refine lv_iload hx hb dJ1_indexOfChar_4cfef_14 (lv_at hl 0 rfl) ?_
    refine va_tb hx hb (hZ.1.1 1 (by decide)).2.2.2 hS (vin (n := 11) (by omega) (by omega)) rfl dJ1_indexOfChar_4cfef_16 ?_
    refine lv_topi (fun y_12 ey_12 => ?_)
    refine lv_iload hx hb dJ1_indexOfChar_4cfef_17 (lv_at hl 1 rfl) ?_
    refine lv_icmp_ne (tgt := 25) hx hb dJ1_indexOfChar_4cfef_19 rfl (fun c_13 => ?_) (fun c_13 => ?_)
    · have c_13 : y_12.toInt ≠ y_1.toInt := xI_ne rfl rfl c_13
      obtain ⟨y_14, ey_14⟩ : ∃ q, q = x_6 + 1 := ⟨_, rfl⟩
      have ty_14 : y_14.toInt = x_6.toInt + 1 := xI_add rfl rfl ey_14 ((by first | (clear ha_p1 hn_9 c_13; omega) | omega)) ((by first | (clear ha_p1 hn_9 c_13; omega) | omega))
      refine lv_iinc (v := y_14) (lv' := [(5, .int y_14), (4, .int y_1), (0, .ref (z.2 1)), (3, .int p2)]) hx hb dJ1_indexOfChar_4cfef_25 hl (k := 0) rfl (by rw [ey_14]; rfl) (lt_b rfl) rfl (fun ls hl => ?_)
      refine lv_goto (tgt := 7) hx hb dJ1_indexOfChar_4cfef_28 rfl ?_
      exact ih_4 (11 - y_14.toInt : Int).toNat (by omega) _ _ _ ⟨G_2, y_14, (Int.toNat_of_nonneg ((by first | (clear ha_p1 hn_9 c_13; omega) | omega))), ⟨(by first | (clear ha_p1 hn_9 c_13; omega) | omega), (by first | (clear ha_p1 hn_9 c_13; omega) | omega)⟩, (hX_7.st (St_k_jLIdxC_1_1_mk ⟨x_6, G_2, y_14, G_2, rfl, rfl, f_8, hB_G_2, ⟨c_10, ⟨y_12, ey_12, ⟨c_13, ⟨y_14, ty_14, ⟨rfl, rfl⟩⟩⟩⟩⟩⟩)), hW, hB_G_2, hF, (Fr.call9 (rs := []) (fs := []) Fr.rf hq_3 rfl rfl), hS, lv_sub hl [0, 1, 2, 3] rfl⟩
    · have c_13 : y_12.toInt = y_1.toInt := xI_eq rfl rfl c_13
      refine lv_iload hx hb dJ1_indexOfChar_4cfef_22 (lv_at hl 0 rfl) ?_
      exact W.iret (v := x_6) hx hb hr (fun t ht _ => ⟨⟨x_6, G_2, rfl, (P_jLIdxC_1_mk ⟨hB_G_2, hF, ⟨y_1, ey_1, ⟨x_6, G_2, hX_7, f_8, hB_G_2, hq_3, (Or.inr ⟨c_10, ⟨y_12, ey_12, ⟨c_13, ⟨rfl, rfl⟩⟩⟩⟩)⟩⟩⟩), wd_t ht hW⟩, hS.F ht⟩) hS.2.2 dJ1_indexOfChar_4cfef_24

set_option maxHeartbeats 4000000 in
set_option maxRecDepth 100000 in
theorem k_jLIdx_1 (l : Launch) (D : va_G) (k : KT) (A : Nat → Prop) (a : Nat → Nat) (z : SK) (G : GS) (p0 : Int32) (p1 : Int32) (p2 : Int32) (ha_p1 : 0 ≤ p1.toInt ∧ p1.toInt ≤ 0) (ha_p2 : 11 ≤ p2.toInt ∧ p2.toInt ≤ 11) : Met l yJ1_indexOf_4cfef (WS yJ1_indexOf_4cfef cJ1_indexOf_4cfef 4 (some .int)) ({ frames := 1, cells := 0, slots := 0, locals := 25 }) (va_Pc [.ref (z.2 1), .int p0, .int p1, .int p2] (cW D k A a z G)) (va_Qi (fun (r : Int32) (G1 : GS) => P_jLIdx_1 p0 p1 p2 G r G1) (fun (G1 : GS) t => Wd D k A a G1 t.heap) A) 0 0 A := by
  refine Met.ofW (cc := cJ1_indexOf_4cfef) (maxL := 4) (ret := (some .int)) (by decide) rfl ?_
  intro p e s m args below meth c s₁ B hml hv
  obtain ⟨rfl, hW, hB_G, hK, hZ⟩ := hv
  have hx := B.exec
  have hb := B.bytes
  have hr := B.returns
  have hts := atoms_spec (ws := WS yJ1_indexOf_4cfef cJ1_indexOf_4cfef 4 (some .int)) B.pre
  have hgd : ∀ w ∈ gd, w ∈ WS yJ1_indexOf_4cfef cJ1_indexOf_4cfef 4 (some .int) := fun w h => List.mem_cons_of_mem _ h
  have hg : ∀ w ∈ gd, w.before _ s = true := fun w h => hts w (hgd w h)
  have hown : s.vm.findClass RJ1 = some m.cls := findClass_of_methodNamed B.named
  have hS : va_S A s.heap s.heap [] := va_S.rf
  have hF : Fr [] [] G G := Fr.rf
  have hl := lv_entry ([.ref (z.2 1), .int p0, .int p1, .int p2]) (n := 4) (Nat.le_of_ble_eq_true rfl)
  rw [lg_entry_eq]
  generalize (lg_sl ([.ref (z.2 1), .int p0, .int p1, .int p2]) ++ List.replicate (4 - (lg_sl ([.ref (z.2 1), .int p0, .int p1, .int p2])).length) Slot.unset).toArray = ls at hl ⊢
  have hl : lv_has ls 4 [(0, .ref (z.2 1)), (1, .int p0), (2, .int p1), (3, .int p2)] := hl
  refine lv_iload_n hx hb dJ1_indexOf_4cfef_0 rfl (lv_at hl 1 rfl) ?_
  refine S_calli (va_runS (As := [.int p0]) (rest := []) ⟨hx, hb, hml, hown, hts⟩ (k_jCan l D k A a z G p0 ) (va_cwS 1 hts (gd_S hgd m724 m725 m134 m726) rfl rfl rfl hd_J1_canEncode_9a6ad.2 ⟨Nat.le_of_ble_eq_true rfl, Nat.le_of_ble_eq_true rfl⟩) (pre_S hW hB_G hK hZ hS) rfl rfl hl.1 rfl (lv_room (Nat.le_of_ble_eq_true rfl)) dJ1_indexOf_4cfef_1 ⟨Nat.le_of_ble_eq_true rfl, Nat.le_of_ble_eq_true rfl⟩) hS (fun r_1 G_2 H locs hpo hW hS => ?_)
  have hX_5 : P_jCan p0 G r_1 G_2 := hpo
  obtain ⟨hB_G_2, hq_3, f_6, -⟩ := hpo
  have hF := hF.call9 hq_3 rfl rfl
  refine lv_if_ne (tgt := 9) hx hb dJ1_indexOf_4cfef_4 rfl (fun c_7 => ?_) (fun c_7 => ?_)
  · have c_7 : r_1.toInt ≠ 0 := xI_ne rfl rfl c_7
    refine lv_iload_n hx hb dJ1_indexOf_4cfef_9 rfl (lv_at hl 2 rfl) ?_
    refine ic_0 hx hb dJ1_indexOf_4cfef_10 ?_
    refine va_mmax hx hb (by rw [hml]; exact hl.1.symm) hown (hg (Cond.methodLink "java/lang/StringLatin1" 92 Lib.Math.max.name) m727) (hg (Cond.static Lib.Math.max.name) m728) (hg (Cond.initialized "java/lang/Math") m132) (hg (Cond.code Lib.Math.max.name Lib.Math.max.code 2 (some .int)) m729) (Nat.le_of_ble_eq_true rfl) (Nat.le_of_ble_eq_true rfl) (Nat.le_of_ble_eq_true rfl) (Nat.le_of_ble_eq_true rfl) dJ1_indexOf_4cfef_11 ?_
    refine lv_topi (fun y_8 ey_8 => ?_)
    have ty_8 := xI_max (X := p1.toInt) (Y := 0) rfl rfl ey_8
    refine lv_istore_n (lv' := [(2, .int y_8), (0, .ref (z.2 1)), (1, .int p0), (3, .int p2)]) hx hb dJ1_indexOf_4cfef_14 rfl hl (lt_b rfl) rfl (fun ls hl => ?_)
    refine lv_iload_n hx hb dJ1_indexOf_4cfef_15 rfl (lv_at hl 3 rfl) ?_
    refine lv_aload_n hx hb dJ1_indexOf_4cfef_16 rfl (lv_at hl 1 rfl) ?_
    refine va_tlen (v := 11) hx hb (hZ.1.1 1 (by decide)).2.2.2 hS rfl dJ1_indexOf_4cfef_17 ?_
    refine va_mmin hx hb (by rw [hml]; exact hl.1.symm) hown (hg (Cond.methodLink "java/lang/StringLatin1" 38 Lib.Math.min.name) m730) (hg (Cond.static Lib.Math.min.name) m636) (hg (Cond.initialized "java/lang/Math") m132) (hg (Cond.code Lib.Math.min.name Lib.Math.min.code 2 (some .int)) m637) (Nat.le_of_ble_eq_true rfl) (Nat.le_of_ble_eq_true rfl) (Nat.le_of_ble_eq_true rfl) (Nat.le_of_ble_eq_true rfl) dJ1_indexOf_4cfef_18 ?_
    refine lv_topi (fun y_9 ey_9 => ?_)
    have ty_9 := xI_min (X := p2.toInt) (Y := 11) rfl rfl ey_9
    refine lv_istore_n (lv' := [(3, .int y_9), (2, .int y_8), (0, .ref (z.2 1)), (1, .int p0)]) hx hb dJ1_indexOf_4cfef_21 rfl hl (lt_b rfl) rfl (fun ls hl => ?_)
    refine lv_iload_n hx hb dJ1_indexOf_4cfef_22 rfl (lv_at hl 1 rfl) ?_
    refine lv_iload_n hx hb dJ1_indexOf_4cfef_23 rfl (lv_at hl 0 rfl) ?_
    refine lv_icmp_lt (tgt := 29) hx hb dJ1_indexOf_4cfef_24 rfl (fun c_10 => ?_) (fun c_10 => ?_)
    · have c_10 : y_8.toInt < y_9.toInt := xI_lt rfl rfl c_10
      refine lv_aload_n hx hb dJ1_indexOf_4cfef_29 rfl (lv_at hl 2 rfl) ?_
      refine lv_iload_n hx hb dJ1_indexOf_4cfef_30 rfl (lv_at hl 3 rfl) ?_
      refine lv_iload_n hx hb dJ1_indexOf_4cfef_31 rfl (lv_at hl 1 rfl) ?_
      refine lv_iload_n hx hb dJ1_indexOf_4cfef_32 rfl (lv_at hl 0 rfl) ?_
      refine S_calli (va_runS (As := [.ref (z.2 1), .int p0, .int y_8, .int y_9]) (rest := []) ⟨hx, hb, hml, hown, hts⟩ (k_jLIdxC_1 l D k A a z G_2 p0 y_8 y_9 ⟨(by first | (clear ha_p1 ha_p2 f_6 c_7; omega) | omega), (by first | (clear ha_p1 ha_p2 f_6 c_7; omega) | omega)⟩ ⟨(by first | (clear ha_p1 ha_p2 f_6 c_7; omega) | omega), (by first | (clear ha_p1 ha_p2 f_6 c_7; omega) | omega)⟩) (va_cwS 4 hts (gd_S hgd m731 m732 m134 m733) rfl rfl rfl hd_J1_indexOfChar_4cfef.2 ⟨Nat.le_of_ble_eq_true rfl, Nat.le_of_ble_eq_true rfl⟩) (pre_S hW hB_G_2 hK hZ hS) rfl rfl hl.1 rfl (lv_room (Nat.le_of_ble_eq_true rfl)) dJ1_indexOf_4cfef_33 ⟨Nat.le_of_ble_eq_true rfl, Nat.le_of_ble_eq_true rfl⟩) hS (fun r_11 G_12 H locs hpo hW hS => ?_)
      have hX_15 : P_jLIdxC_1 p0 y_8 y_9 G_2 r_11 G_12 := hpo
      obtain ⟨hB_G_12, hq_13, -⟩ := hpo
      have hF := hF.call9 hq_13 rfl rfl
      exact W.iret (v := r_11) hx hb hr (fun t ht _ => ⟨⟨r_11, G_12, rfl, (P_jLIdx_1_mk ⟨hB_G_12, hF, ⟨r_1, G_2, hX_5, (Or.inr ⟨c_7, ⟨y_8, ty_8, ⟨y_9, ty_9, ⟨r_11, G_12, hX_15, ⟨rfl, rfl⟩⟩⟩⟩⟩)⟩⟩), wd_t ht hW⟩, hS.F ht⟩) hS.2.2 dJ1_indexOf_4cfef_36
    · have c_10 : y_9.toInt ≤ y_8.toInt := xI_nlt rfl rfl c_10
      exfalso; first | (clear ha_p1 ha_p2 f_6 c_7; omega) | omega
  · have c_7 : r_1.toInt = 0 := xI_eq rfl rfl c_7
    refine ic_m1 hx hb dJ1_indexOf_4cfef_7 ?_
    exact W.iret (v := (-1)) hx hb hr (fun t ht _ => ⟨⟨(-1), G_2, rfl, (P_jLIdx_1_mk ⟨hB_G_2, hF, ⟨r_1, G_2, hX_5, (Or.inl ⟨c_7, ⟨rfl, rfl⟩⟩)⟩⟩), wd_t ht hW⟩, hS.F ht⟩) hS.2.2 dJ1_indexOf_4cfef_8

set_option maxHeartbeats 4000000 in
set_option maxRecDepth 100000 in
theorem k_jIdx2_1 (l : Launch) (D : va_G) (k : KT) (A : Nat → Prop) (a : Nat → Nat) (z : SK) (G : GS) (p0 : Int32) (p1 : Int32) (ha_p1 : 0 ≤ p1.toInt ∧ p1.toInt ≤ 0) : Met l yJ0_indexOf_7cf53 (WS yJ0_indexOf_7cf53 cJ0_indexOf_7cf53 3 (some .int)) ({ frames := 2, cells := 0, slots := 0, locals := 48 }) (va_Pc [.ref (z.1 1), .int p0, .int p1] (cW D k A a z G)) (va_Qi (fun (r : Int32) (G1 : GS) => P_jIdx2_1 p0 p1 G r G1) (fun (G1 : GS) t => Wd D k A a G1 t.heap) A) 0 0 A := by
  refine Met.ofW (cc := cJ0_indexOf_7cf53) (maxL := 3) (ret := (some .int)) (by decide) rfl ?_
  intro p e s m args below meth c s₁ B hml hv
  obtain ⟨rfl, hW, hB_G, hK, hZ⟩ := hv
  have hx := B.exec
  have hb := B.bytes
  have hr := B.returns
  have hts := atoms_spec (ws := WS yJ0_indexOf_7cf53 cJ0_indexOf_7cf53 3 (some .int)) B.pre
  have hgd : ∀ w ∈ gd, w ∈ WS yJ0_indexOf_7cf53 cJ0_indexOf_7cf53 3 (some .int) := fun w h => List.mem_cons_of_mem _ h
  have hg : ∀ w ∈ gd, w.before _ s = true := fun w h => hts w (hgd w h)
  have hown : s.vm.findClass RJ0 = some m.cls := findClass_of_methodNamed B.named
  have hS : va_S A s.heap s.heap [] := va_S.rf
  have hF : Fr [] [] G G := Fr.rf
  have hl := lv_entry ([.ref (z.1 1), .int p0, .int p1]) (n := 3) (Nat.le_of_ble_eq_true rfl)
  rw [lg_entry_eq]
  generalize (lg_sl ([.ref (z.1 1), .int p0, .int p1]) ++ List.replicate (3 - (lg_sl ([.ref (z.1 1), .int p0, .int p1])).length) Slot.unset).toArray = ls at hl ⊢
  have hl : lv_has ls 3 [(0, .ref (z.1 1)), (1, .int p0), (2, .int p1)] := hl
  refine lv_aload_n hx hb dJ0_indexOf_7cf53_0 rfl (lv_at hl 0 rfl) ?_
  refine S_calli (va_runV (As := []) (rest := []) ⟨hx, hb, hml, hown, hts⟩ (k_jLat_1 l D k A a z G  ) (cwV 0 hts (gd_V hgd m669 m670 m671 m133 m672) rfl rfl rfl hd_J0_isLatin1_aae02 ⟨Nat.le_of_ble_eq_true rfl, Nat.le_of_ble_eq_true rfl⟩) (pre_VS hW hB_G hK hZ hS 1 (by decide)) rfl rfl hl.1 rfl (lv_room (Nat.le_of_ble_eq_true rfl)) dJ0_indexOf_7cf53_1 ⟨Nat.le_of_ble_eq_true rfl, Nat.le_of_ble_eq_true rfl⟩) hS (fun r_1 G_2 H locs hpo hW hS => ?_)
  have hX_5 : P_jLat_1 G r_1 G_2 := hpo
  obtain ⟨hB_G_2, hq_3, f_6, -⟩ := hpo
  have hF := hF.call9 hq_3 rfl rfl
  refine lv_if_eq (tgt := 23) hx hb dJ0_indexOf_7cf53_4 rfl (fun c_7 => ?_) (fun c_7 => ?_)
  · have c_7 : r_1.toInt = 0 := xI_eq rfl rfl c_7
    exfalso; omega
  · have c_7 : r_1.toInt ≠ 0 := xI_ne rfl rfl c_7
    refine lv_aload_n hx hb dJ0_indexOf_7cf53_7 rfl (lv_at hl 0 rfl) ?_
    refine vk_getf hx hb (hZ.1.1 1 (by decide)).2.2.1 hS hown (hg (Cond.fieldLink "java/lang/String" 9 "java/lang/String" "value" "[B") m2081) (fun _ h9 => h9) dJ0_indexOf_7cf53_8 ?_
    refine lv_iload_n hx hb dJ0_indexOf_7cf53_11 rfl (lv_at hl 1 rfl) ?_
    refine lv_iload_n hx hb dJ0_indexOf_7cf53_12 rfl (lv_at hl 2 rfl) ?_
    refine lv_aload_n hx hb dJ0_indexOf_7cf53_13 rfl (lv_at hl 0 rfl) ?_
    refine S_calli (va_runV (As := []) (rest := [.int p1, .int p0, .ref (z.2 1)]) ⟨hx, hb, hml, hown, hts⟩ (k_jLen_1 l D k A a z G_2  ) (cwV 0 hts (gd_V hgd m720 m656 m657 m133 m658) rfl rfl rfl hd_J0_length_8abf5 ⟨Nat.le_of_ble_eq_true rfl, Nat.le_of_ble_eq_true rfl⟩) (pre_VS hW hB_G_2 hK hZ hS 1 (by decide)) rfl rfl hl.1 rfl (lv_room (Nat.le_of_ble_eq_true rfl)) dJ0_indexOf_7cf53_14 ⟨Nat.le_of_ble_eq_true rfl, Nat.le_of_ble_eq_true rfl⟩) hS (fun r_8 G_9 H locs hpo hW hS => ?_)
    have hX_12 : P_jLen_1 G_2 r_8 G_9 := hpo
    obtain ⟨hB_G_9, hq_10, f_13, -⟩ := hpo
    have hF := hF.call9 hq_10 rfl rfl
    refine S_calli (va_runS (As := [.ref (z.2 1), .int p0, .int p1, .int r_8]) (rest := []) ⟨hx, hb, hml, hown, hts⟩ (k_jLIdx_1 l D k A a z G_9 p0 p1 r_8 ⟨(by first | (clear f_6 c_7 f_13; omega) | omega), (by first | (clear f_6 c_7 f_13; omega) | omega)⟩ ⟨(by first | (clear ha_p1 f_6 c_7; omega) | omega), (by first | (clear ha_p1 f_6 c_7; omega) | omega)⟩) (va_cwS 4 hts (gd_S hgd m721 m722 m134 m723) rfl rfl rfl hd_J1_indexOf_4cfef.2 ⟨Nat.le_of_ble_eq_true rfl, Nat.le_of_ble_eq_true rfl⟩) (pre_S hW hB_G_9 hK hZ hS) rfl rfl hl.1 rfl (lv_room (Nat.le_of_ble_eq_true rfl)) dJ0_indexOf_7cf53_17 ⟨Nat.le_of_ble_eq_true rfl, Nat.le_of_ble_eq_true rfl⟩) hS (fun r_14 G_15 H locs hpo hW hS => ?_)
    have hX_18 : P_jLIdx_1 p0 p1 r_8 G_9 r_14 G_15 := hpo
    obtain ⟨hB_G_15, hq_16, -⟩ := hpo
    have hF := hF.call9 hq_16 rfl rfl
    refine lv_goto (tgt := 36) hx hb dJ0_indexOf_7cf53_20 rfl ?_
    exact W.iret (v := r_14) hx hb hr (fun t ht _ => ⟨⟨r_14, G_15, rfl, (P_jIdx2_1_mk ⟨hB_G_15, hF, ⟨r_1, G_2, hX_5, ⟨r_8, G_9, hX_12, ⟨r_14, G_15, hX_18, ⟨rfl, rfl⟩⟩⟩⟩⟩), wd_t ht hW⟩, hS.F ht⟩) hS.2.2 dJ0_indexOf_7cf53_36

set_option maxHeartbeats 4000000 in
set_option maxRecDepth 100000 in
theorem k_jIdx_1 (l : Launch) (D : va_G) (k : KT) (A : Nat → Prop) (a : Nat → Nat) (z : SK) (G : GS) (p0 : Int32)  : Met l yJ0_indexOf_0f7a4 (WS yJ0_indexOf_0f7a4 cJ0_indexOf_0f7a4 2 (some .int)) ({ frames := 3, cells := 0, slots := 0, locals := 70 }) (va_Pc [.ref (z.1 1), .int p0] (cW D k A a z G)) (va_Qi (fun (r : Int32) (G1 : GS) => P_jIdx_1 p0 G r G1) (fun (G1 : GS) t => Wd D k A a G1 t.heap) A) 0 0 A := by
  refine Met.ofW (cc := cJ0_indexOf_0f7a4) (maxL := 2) (ret := (some .int)) (by decide) rfl ?_
  intro p e s m args below meth c s₁ B hml hv
  obtain ⟨rfl, hW, hB_G, hK, hZ⟩ := hv
  have hx := B.exec
  have hb := B.bytes
  have hr := B.returns
  have hts := atoms_spec (ws := WS yJ0_indexOf_0f7a4 cJ0_indexOf_0f7a4 2 (some .int)) B.pre
  have hgd : ∀ w ∈ gd, w ∈ WS yJ0_indexOf_0f7a4 cJ0_indexOf_0f7a4 2 (some .int) := fun w h => List.mem_cons_of_mem _ h
  have hg : ∀ w ∈ gd, w.before _ s = true := fun w h => hts w (hgd w h)
  have hown : s.vm.findClass RJ0 = some m.cls := findClass_of_methodNamed B.named
  have hS : va_S A s.heap s.heap [] := va_S.rf
  have hF : Fr [] [] G G := Fr.rf
  have hl := lv_entry ([.ref (z.1 1), .int p0]) (n := 2) (Nat.le_of_ble_eq_true rfl)
  rw [lg_entry_eq]
  generalize (lg_sl ([.ref (z.1 1), .int p0]) ++ List.replicate (2 - (lg_sl ([.ref (z.1 1), .int p0])).length) Slot.unset).toArray = ls at hl ⊢
  have hl : lv_has ls 2 [(0, .ref (z.1 1)), (1, .int p0)] := hl
  refine lv_aload_n hx hb dJ0_indexOf_0f7a4_0 rfl (lv_at hl 0 rfl) ?_
  refine lv_iload_n hx hb dJ0_indexOf_0f7a4_1 rfl (lv_at hl 1 rfl) ?_
  refine ic_0 hx hb dJ0_indexOf_0f7a4_2 ?_
  refine S_calli (va_runV (As := [.int p0, .int 0]) (rest := []) ⟨hx, hb, hml, hown, hts⟩ (k_jIdx2_1 l D k A a z G p0 0 ⟨by decide, by decide⟩) (cwV 2 hts (gd_V hgd m716 m717 m718 m133 m719) rfl rfl rfl hd_J0_indexOf_7cf53 ⟨Nat.le_of_ble_eq_true rfl, Nat.le_of_ble_eq_true rfl⟩) (pre_VS hW hB_G hK hZ hS 1 (by decide)) rfl rfl hl.1 rfl (lv_room (Nat.le_of_ble_eq_true rfl)) dJ0_indexOf_0f7a4_3 ⟨Nat.le_of_ble_eq_true rfl, Nat.le_of_ble_eq_true rfl⟩) hS (fun r_1 G_2 H locs hpo hW hS => ?_)
  have hX_5 : P_jIdx2_1 p0 0 G r_1 G_2 := hpo
  obtain ⟨hB_G_2, hq_3, -⟩ := hpo
  have hF := hF.call9 hq_3 rfl rfl
  exact W.iret (v := r_1) hx hb hr (fun t ht _ => ⟨⟨r_1, G_2, rfl, (P_jIdx_1_mk ⟨hB_G_2, hF, ⟨r_1, G_2, hX_5, ⟨rfl, rfl⟩⟩⟩), wd_t ht hW⟩, hS.F ht⟩) hS.2.2 dJ0_indexOf_0f7a4_6
