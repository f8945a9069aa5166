theorem m9 : Cond.selects RX7 yX7_passFirst yX7_passFirst ∈ gd := gds_1 9 rfl
theorem m10 : Cond.selects RX7 yX7_passName yX7_passName ∈ gd := gds_1 10 rfl
theorem m11 : Cond.selects RX7 yX7_passNumber yX7_passNumber ∈ gd := gds_1 11 rfl
theorem m13 : Cond.selects RX7 yX7_readSlab yX7_readSlab ∈ gd := gds_1 13 rfl
theorem m160 : Cond.fieldLink RX7 121 "SlabWalk$Paving" "length" "[I" ∈ gd := gdc_1_2 12 rfl gw_fieldLink
theorem m165 : Cond.fieldLink RX7 141 "SlabWalk$Paving" "foot" "[I" ∈ gd := gdc_1_3 1 rfl gw_fieldLink
theorem m168 : Cond.fieldLink RX7 144 "SlabWalk$Paving" "least" "[I" ∈ gd := gdc_1_3 4 rfl gw_fieldLink
theorem m172 : Cond.fieldLink RX7 147 "SlabWalk$Paving" "most" "[I" ∈ gd := gdc_1_3 8 rfl gw_fieldLink
theorem m176 : Cond.fieldLink RX7 150 "SlabWalk$Paving" "leap" "[I" ∈ gd := gdc_1_3 12 rfl gw_fieldLink
theorem m179 : Cond.fieldLink RX7 166 "SlabWalk$Paving" "slip" "[I" ∈ gd := gdc_1_3 15 rfl gw_fieldLink
theorem m185 : Cond.fieldLink RX7 156 "SlabWalk$Paving" "codeEnd" "[I" ∈ gd := gdc_1_4 5 rfl gw_fieldLink
theorem m188 : Cond.fieldLink RX7 104 "SlabWalk$Paving" "streets" "I" ∈ gd := gdc_1_4 8 rfl gw_fieldLink
theorem m190 : Cond.fieldLink RX7 138 "SlabWalk$Paving" "walkers" "I" ∈ gd := gdc_1_4 10 rfl gw_fieldLink
theorem m194 : Cond.fieldLink RX7 153 "SlabWalk$Paving" "rules" "I" ∈ gd := gdc_1_4 14 rfl gw_fieldLink
theorem m200 : Cond.fieldLink RX7 159 "SlabWalk$Paving" "coded" "I" ∈ gd := gdc_1_5 4 rfl gw_fieldLink
theorem m202 : Cond.fieldLink RX7 169 "SlabWalk$Paving" "hand" "I" ∈ gd := gdc_1_5 6 rfl gw_fieldLink
theorem m205 : Cond.fieldLink RX7 172 "SlabWalk$Paving" "slack" "I" ∈ gd := gdc_1_5 9 rfl gw_fieldLink
theorem m313 : Cond.fieldLink RX7 35 "SlabWalk$Reader" "formulas" "LSlabWalk$Formulas;" ∈ gd := gdc_1_12 5 rfl gw_fieldLink
theorem m314 : Cond.fieldLink RX7 9 "SlabWalk$Reader" "streetNames" "[J" ∈ gd := gdc_1_12 6 rfl gw_fieldLink
theorem m315 : Cond.fieldLink RX7 15 "SlabWalk$Reader" "walkerNames" "[J" ∈ gd := gdc_1_12 7 rfl gw_fieldLink
theorem m316 : Cond.fieldLink RX7 18 "SlabWalk$Reader" "ruleNames" "[J" ∈ gd := gdc_1_12 8 rfl gw_fieldLink
theorem m317 : Cond.fieldLink RX7 39 "SlabWalk$Reader" "paving" "LSlabWalk$Paving;" ∈ gd := gdc_1_12 9 rfl gw_fieldLink
theorem m318 : Cond.fieldLink RX7 48 "SlabWalk$Reader" "slipTold" "Z" ∈ gd := gdc_1_12 10 rfl gw_fieldLink
theorem m319 : Cond.fieldLink RX7 52 "SlabWalk$Reader" "handTold" "Z" ∈ gd := gdc_1_12 11 rfl gw_fieldLink
theorem m773 : Cond.methodLink RX7 107 yX7_passFirst ∈ gd := gdc_3_11 1 rfl gw_methodLink
theorem m775 : Cond.instanceMethod yX7_passFirst ∈ gd := gdc_3_11 3 rfl gw_instanceMethod
theorem m776 : Cond.code yX7_passFirst cX7_passFirst 2 (some .boolean) ∈ gd := gdc_3_11 4 rfl gw_code
theorem m782 : Cond.methodLink RX7 111 yX7_passName ∈ gd := gdc_3_11 10 rfl gw_methodLink
theorem m784 : Cond.instanceMethod yX7_passName ∈ gd := gdc_3_11 12 rfl gw_instanceMethod
theorem m785 : Cond.code yX7_passName cX7_passName 4 (some .boolean) ∈ gd := gdc_3_11 13 rfl gw_code
theorem m786 : Cond.methodLink RX7 115 yX9_pass ∈ gd := gdc_3_11 14 rfl gw_methodLink
theorem m787 : Cond.instanceMethod yX9_pass ∈ gd := gdc_3_11 15 rfl gw_instanceMethod
theorem m788 : Cond.selects RX9 yX9_pass yX9_pass ∈ gd := gdc_3_12 0 rfl gw_selects
theorem m789 : Cond.code yX9_pass cX9_pass 2 (some .boolean) ∈ gd := gdc_3_12 1 rfl gw_code
theorem m791 : Cond.methodLink RX7 118 yX7_passNumber ∈ gd := gdc_3_12 3 rfl gw_methodLink
theorem m793 : Cond.instanceMethod yX7_passNumber ∈ gd := gdc_3_12 5 rfl gw_instanceMethod
theorem m794 : Cond.code yX7_passNumber cX7_passNumber 3 (some .boolean) ∈ gd := gdc_3_12 6 rfl gw_code
theorem m799 : Cond.methodLink RX7 125 yX7_readSlab ∈ gd := gdc_3_12 11 rfl gw_methodLink
theorem m801 : Cond.instanceMethod yX7_readSlab ∈ gd := gdc_3_12 13 rfl gw_instanceMethod
theorem m802 : Cond.code yX7_readSlab cX7_readSlab 9 (some .boolean) ∈ gd := gdc_3_12 14 rfl gw_code
theorem m803 : Cond.methodLink RX7 128 Lib.Math.min.name ∈ gd := gdc_3_12 15 rfl gw_methodLink
theorem m804 : Cond.methodLink RX7 134 yX6_lay ∈ gd := gdc_3_13 0 rfl gw_methodLink
theorem m805 : Cond.instanceMethod yX6_lay ∈ gd := gdc_3_13 1 rfl gw_instanceMethod
theorem m806 : Cond.selects RX6 yX6_lay yX6_lay ∈ gd := gdc_3_13 2 rfl gw_selects
theorem m807 : Cond.code yX6_lay cX6_lay 7 none ∈ gd := gdc_3_13 3 rfl gw_code
theorem m817 : Cond.methodLink RX7 162 yX2_read ∈ gd := gdc_3_13 13 rfl gw_methodLink
theorem m818 : Cond.instanceMethod yX2_read ∈ gd := gdc_3_13 14 rfl gw_instanceMethod
theorem m819 : Cond.selects RX2 yX2_read yX2_read ∈ gd := gdc_3_13 15 rfl gw_selects
theorem m820 : Cond.code yX2_read cX2_read 2 (some .boolean) ∈ gd := gdc_3_14 0 rfl gw_code
noncomputable def rbX7_readHand_0 : List (Nat × List Nat) := [(0, [42]), (1, [42]), (2, [180, 0, 52]), (5, [154, 0, 7]), (8, [4]), (9, [167, 0, 4]), (12, [3]), (13, [182, 0, 107]), (16, [153, 0, 13]), (19, [42]), (20, [4]), (21, [16, 99]), (23, [182, 0, 118]), (26, [154, 0, 5]), (29, [3]), (30, [172]), (31, [42]), (32, [4]), (33, [181, 0, 52]), (36, [42]), (37, [180, 0, 39]), (40, [42]), (41, [180, 0, 99]), (44, [181, 0, 169])]
theorem rcX7_readHand_0 : dgo (lb cX7_readHand) 0 rbX7_readHand_0 = true := by decide +kernel
theorem dX7_readHand_0 : decode cX7_readHand 0 = .ok (.aload_n 0, 1) := dk_42 (dw rcX7_readHand_0 0 rfl)
theorem dX7_readHand_1 : decode cX7_readHand 1 = .ok (.aload_n 0, 1) := dk_42 (dw rcX7_readHand_0 1 rfl)
theorem dX7_readHand_2 : decode cX7_readHand 2 = .ok (.getfield 52, 3) := dk_180 (dw rcX7_readHand_0 2 rfl) rfl
theorem dX7_readHand_5 : decode cX7_readHand 5 = .ok (.ifCond .ne 7, 3) := dk_154 (dw rcX7_readHand_0 3 rfl) rfl
theorem dX7_readHand_8 : decode cX7_readHand 8 = .ok (.iconst 1, 1) := dk_4 (dw rcX7_readHand_0 4 rfl)
theorem dX7_readHand_9 : decode cX7_readHand 9 = .ok (.goto 4, 3) := dk_167 (dw rcX7_readHand_0 5 rfl) rfl
theorem dX7_readHand_12 : decode cX7_readHand 12 = .ok (.iconst 0, 1) := dk_3 (dw rcX7_readHand_0 6 rfl)
theorem dX7_readHand_13 : decode cX7_readHand 13 = .ok (.invokevirtual 107, 3) := dk_182 (dw rcX7_readHand_0 7 rfl) rfl
theorem dX7_readHand_16 : decode cX7_readHand 16 = .ok (.ifCond .eq 13, 3) := dk_153 (dw rcX7_readHand_0 8 rfl) rfl
theorem dX7_readHand_19 : decode cX7_readHand 19 = .ok (.aload_n 0, 1) := dk_42 (dw rcX7_readHand_0 9 rfl)
theorem dX7_readHand_20 : decode cX7_readHand 20 = .ok (.iconst 1, 1) := dk_4 (dw rcX7_readHand_0 10 rfl)
theorem dX7_readHand_21 : decode cX7_readHand 21 = .ok (.bipush 99, 2) := dk_16 (dw rcX7_readHand_0 11 rfl) rfl
theorem dX7_readHand_23 : decode cX7_readHand 23 = .ok (.invokevirtual 118, 3) := dk_182 (dw rcX7_readHand_0 12 rfl) rfl
theorem dX7_readHand_26 : decode cX7_readHand 26 = .ok (.ifCond .ne 5, 3) := dk_154 (dw rcX7_readHand_0 13 rfl) rfl
theorem dX7_readHand_29 : decode cX7_readHand 29 = .ok (.iconst 0, 1) := dk_3 (dw rcX7_readHand_0 14 rfl)
theorem dX7_readHand_30 : decode cX7_readHand 30 = .ok (.ireturn, 1) := dk_172 (dw rcX7_readHand_0 15 rfl)
theorem dX7_readHand_31 : decode cX7_readHand 31 = .ok (.aload_n 0, 1) := dk_42 (dw rcX7_readHand_0 16 rfl)
theorem dX7_readHand_32 : decode cX7_readHand 32 = .ok (.iconst 1, 1) := dk_4 (dw rcX7_readHand_0 17 rfl)
theorem dX7_readHand_33 : decode cX7_readHand 33 = .ok (.putfield 52, 3) := dk_181 (dw rcX7_readHand_0 18 rfl) rfl
theorem dX7_readHand_36 : decode cX7_readHand 36 = .ok (.aload_n 0, 1) := dk_42 (dw rcX7_readHand_0 19 rfl)
theorem dX7_readHand_37 : decode cX7_readHand 37 = .ok (.getfield 39, 3) := dk_180 (dw rcX7_readHand_0 20 rfl) rfl
theorem dX7_readHand_40 : decode cX7_readHand 40 = .ok (.aload_n 0, 1) := dk_42 (dw rcX7_readHand_0 21 rfl)
theorem dX7_readHand_41 : decode cX7_readHand 41 = .ok (.getfield 99, 3) := dk_180 (dw rcX7_readHand_0 22 rfl) rfl
theorem dX7_readHand_44 : decode cX7_readHand 44 = .ok (.putfield 169, 3) := dk_181 (dw rcX7_readHand_0 23 rfl) rfl
noncomputable def rbX7_readHand_47 : List (Nat × List Nat) := [(47, [42]), (48, [180, 0, 26]), (51, [17, 0, 137]), (54, [182, 0, 115]), (57, [153, 0, 13]), (60, [42]), (61, [3]), (62, [16, 99]), (64, [182, 0, 118]), (67, [154, 0, 5]), (70, [3]), (71, [172]), (72, [42]), (73, [180, 0, 39]), (76, [42]), (77, [180, 0, 99]), (80, [181, 0, 172]), (83, [42]), (84, [180, 0, 26]), (87, [16, 59]), (89, [182, 0, 115]), (92, [172])]
theorem rcX7_readHand_47 : dgo (lb cX7_readHand) 0 rbX7_readHand_47 = true := by decide +kernel
theorem dX7_readHand_47 : decode cX7_readHand 47 = .ok (.aload_n 0, 1) := dk_42 (dw rcX7_readHand_47 0 rfl)
theorem dX7_readHand_48 : decode cX7_readHand 48 = .ok (.getfield 26, 3) := dk_180 (dw rcX7_readHand_47 1 rfl) rfl
theorem dX7_readHand_51 : decode cX7_readHand 51 = .ok (.sipush 137, 3) := dk_17 (dw rcX7_readHand_47 2 rfl) rfl
theorem dX7_readHand_54 : decode cX7_readHand 54 = .ok (.invokevirtual 115, 3) := dk_182 (dw rcX7_readHand_47 3 rfl) rfl
theorem dX7_readHand_57 : decode cX7_readHand 57 = .ok (.ifCond .eq 13, 3) := dk_153 (dw rcX7_readHand_47 4 rfl) rfl
theorem dX7_readHand_60 : decode cX7_readHand 60 = .ok (.aload_n 0, 1) := dk_42 (dw rcX7_readHand_47 5 rfl)
theorem dX7_readHand_61 : decode cX7_readHand 61 = .ok (.iconst 0, 1) := dk_3 (dw rcX7_readHand_47 6 rfl)
theorem dX7_readHand_62 : decode cX7_readHand 62 = .ok (.bipush 99, 2) := dk_16 (dw rcX7_readHand_47 7 rfl) rfl
theorem dX7_readHand_64 : decode cX7_readHand 64 = .ok (.invokevirtual 118, 3) := dk_182 (dw rcX7_readHand_47 8 rfl) rfl
theorem dX7_readHand_67 : decode cX7_readHand 67 = .ok (.ifCond .ne 5, 3) := dk_154 (dw rcX7_readHand_47 9 rfl) rfl
theorem dX7_readHand_70 : decode cX7_readHand 70 = .ok (.iconst 0, 1) := dk_3 (dw rcX7_readHand_47 10 rfl)
theorem dX7_readHand_71 : decode cX7_readHand 71 = .ok (.ireturn, 1) := dk_172 (dw rcX7_readHand_47 11 rfl)
theorem dX7_readHand_72 : decode cX7_readHand 72 = .ok (.aload_n 0, 1) := dk_42 (dw rcX7_readHand_47 12 rfl)
theorem dX7_readHand_73 : decode cX7_readHand 73 = .ok (.getfield 39, 3) := dk_180 (dw rcX7_readHand_47 13 rfl) rfl
theorem dX7_readHand_76 : decode cX7_readHand 76 = .ok (.aload_n 0, 1) := dk_42 (dw rcX7_readHand_47 14 rfl)
theorem dX7_readHand_77 : decode cX7_readHand 77 = .ok (.getfield 99, 3) := dk_180 (dw rcX7_readHand_47 15 rfl) rfl
theorem dX7_readHand_80 : decode cX7_readHand 80 = .ok (.putfield 172, 3) := dk_181 (dw rcX7_readHand_47 16 rfl) rfl
theorem dX7_readHand_83 : decode cX7_readHand 83 = .ok (.aload_n 0, 1) := dk_42 (dw rcX7_readHand_47 17 rfl)
theorem dX7_readHand_84 : decode cX7_readHand 84 = .ok (.getfield 26, 3) := dk_180 (dw rcX7_readHand_47 18 rfl) rfl
theorem dX7_readHand_87 : decode cX7_readHand 87 = .ok (.bipush 59, 2) := dk_16 (dw rcX7_readHand_47 19 rfl) rfl
theorem dX7_readHand_89 : decode cX7_readHand 89 = .ok (.invokevirtual 115, 3) := dk_182 (dw rcX7_readHand_47 20 rfl) rfl
theorem dX7_readHand_92 : decode cX7_readHand 92 = .ok (.ireturn, 1) := dk_172 (dw rcX7_readHand_47 21 rfl)
noncomputable def rbX7_readRule_0 : List (Nat × List Nat) := [(0, [42]), (1, [42]), (2, [180, 0, 39]), (5, [180, 0, 153]), (8, [16, 6]), (10, [162, 0, 7]), (13, [4]), (14, [167, 0, 4]), (17, [3]), (18, [182, 0, 107]), (21, [153, 0, 21]), (24, [42]), (25, [42]), (26, [180, 0, 18]), (29, [42]), (30, [180, 0, 39]), (33, [180, 0, 153]), (36, [182, 0, 111]), (39, [154, 0, 5]), (42, [3]), (43, [172]), (44, [42]), (45, [180, 0, 39]), (48, [180, 0, 156])]
theorem rcX7_readRule_0 : dgo (lb cX7_readRule) 0 rbX7_readRule_0 = true := by decide +kernel
theorem dX7_readRule_0 : decode cX7_readRule 0 = .ok (.aload_n 0, 1) := dk_42 (dw rcX7_readRule_0 0 rfl)
theorem dX7_readRule_1 : decode cX7_readRule 1 = .ok (.aload_n 0, 1) := dk_42 (dw rcX7_readRule_0 1 rfl)
theorem dX7_readRule_2 : decode cX7_readRule 2 = .ok (.getfield 39, 3) := dk_180 (dw rcX7_readRule_0 2 rfl) rfl
theorem dX7_readRule_5 : decode cX7_readRule 5 = .ok (.getfield 153, 3) := dk_180 (dw rcX7_readRule_0 3 rfl) rfl
theorem dX7_readRule_8 : decode cX7_readRule 8 = .ok (.bipush 6, 2) := dk_16 (dw rcX7_readRule_0 4 rfl) rfl
theorem dX7_readRule_10 : decode cX7_readRule 10 = .ok (.if_icmp .ge 7, 3) := dk_162 (dw rcX7_readRule_0 5 rfl) rfl
theorem dX7_readRule_13 : decode cX7_readRule 13 = .ok (.iconst 1, 1) := dk_4 (dw rcX7_readRule_0 6 rfl)
theorem dX7_readRule_14 : decode cX7_readRule 14 = .ok (.goto 4, 3) := dk_167 (dw rcX7_readRule_0 7 rfl) rfl
theorem dX7_readRule_17 : decode cX7_readRule 17 = .ok (.iconst 0, 1) := dk_3 (dw rcX7_readRule_0 8 rfl)
theorem dX7_readRule_18 : decode cX7_readRule 18 = .ok (.invokevirtual 107, 3) := dk_182 (dw rcX7_readRule_0 9 rfl) rfl
theorem dX7_readRule_21 : decode cX7_readRule 21 = .ok (.ifCond .eq 21, 3) := dk_153 (dw rcX7_readRule_0 10 rfl) rfl
theorem dX7_readRule_24 : decode cX7_readRule 24 = .ok (.aload_n 0, 1) := dk_42 (dw rcX7_readRule_0 11 rfl)
theorem dX7_readRule_25 : decode cX7_readRule 25 = .ok (.aload_n 0, 1) := dk_42 (dw rcX7_readRule_0 12 rfl)
theorem dX7_readRule_26 : decode cX7_readRule 26 = .ok (.getfield 18, 3) := dk_180 (dw rcX7_readRule_0 13 rfl) rfl
theorem dX7_readRule_29 : decode cX7_readRule 29 = .ok (.aload_n 0, 1) := dk_42 (dw rcX7_readRule_0 14 rfl)
theorem dX7_readRule_30 : decode cX7_readRule 30 = .ok (.getfield 39, 3) := dk_180 (dw rcX7_readRule_0 15 rfl) rfl
theorem dX7_readRule_33 : decode cX7_readRule 33 = .ok (.getfield 153, 3) := dk_180 (dw rcX7_readRule_0 16 rfl) rfl
theorem dX7_readRule_36 : decode cX7_readRule 36 = .ok (.invokevirtual 111, 3) := dk_182 (dw rcX7_readRule_0 17 rfl) rfl
theorem dX7_readRule_39 : decode cX7_readRule 39 = .ok (.ifCond .ne 5, 3) := dk_154 (dw rcX7_readRule_0 18 rfl) rfl
theorem dX7_readRule_42 : decode cX7_readRule 42 = .ok (.iconst 0, 1) := dk_3 (dw rcX7_readRule_0 19 rfl)
theorem dX7_readRule_43 : decode cX7_readRule 43 = .ok (.ireturn, 1) := dk_172 (dw rcX7_readRule_0 20 rfl)
theorem dX7_readRule_44 : decode cX7_readRule 44 = .ok (.aload_n 0, 1) := dk_42 (dw rcX7_readRule_0 21 rfl)
theorem dX7_readRule_45 : decode cX7_readRule 45 = .ok (.getfield 39, 3) := dk_180 (dw rcX7_readRule_0 22 rfl) rfl
theorem dX7_readRule_48 : decode cX7_readRule 48 = .ok (.getfield 156, 3) := dk_180 (dw rcX7_readRule_0 23 rfl) rfl
noncomputable def rbX7_readRule_51 : List (Nat × List Nat) := [(51, [42]), (52, [180, 0, 39]), (55, [180, 0, 153]), (58, [42]), (59, [180, 0, 39]), (62, [180, 0, 159]), (65, [79]), (66, [42]), (67, [180, 0, 35]), (70, [42]), (71, [180, 0, 39]), (74, [182, 0, 162]), (77, [154, 0, 5]), (80, [3]), (81, [172]), (82, [42]), (83, [180, 0, 39]), (86, [89]), (87, [180, 0, 153]), (90, [4]), (91, [96]), (92, [181, 0, 153]), (95, [42]), (96, [180, 0, 39])]
theorem rcX7_readRule_51 : dgo (lb cX7_readRule) 0 rbX7_readRule_51 = true := by decide +kernel
theorem dX7_readRule_51 : decode cX7_readRule 51 = .ok (.aload_n 0, 1) := dk_42 (dw rcX7_readRule_51 0 rfl)
theorem dX7_readRule_52 : decode cX7_readRule 52 = .ok (.getfield 39, 3) := dk_180 (dw rcX7_readRule_51 1 rfl) rfl
theorem dX7_readRule_55 : decode cX7_readRule 55 = .ok (.getfield 153, 3) := dk_180 (dw rcX7_readRule_51 2 rfl) rfl
theorem dX7_readRule_58 : decode cX7_readRule 58 = .ok (.aload_n 0, 1) := dk_42 (dw rcX7_readRule_51 3 rfl)
theorem dX7_readRule_59 : decode cX7_readRule 59 = .ok (.getfield 39, 3) := dk_180 (dw rcX7_readRule_51 4 rfl) rfl
theorem dX7_readRule_62 : decode cX7_readRule 62 = .ok (.getfield 159, 3) := dk_180 (dw rcX7_readRule_51 5 rfl) rfl
theorem dX7_readRule_65 : decode cX7_readRule 65 = .ok (.iastore, 1) := dk_79 (dw rcX7_readRule_51 6 rfl)
theorem dX7_readRule_66 : decode cX7_readRule 66 = .ok (.aload_n 0, 1) := dk_42 (dw rcX7_readRule_51 7 rfl)
theorem dX7_readRule_67 : decode cX7_readRule 67 = .ok (.getfield 35, 3) := dk_180 (dw rcX7_readRule_51 8 rfl) rfl
theorem dX7_readRule_70 : decode cX7_readRule 70 = .ok (.aload_n 0, 1) := dk_42 (dw rcX7_readRule_51 9 rfl)
theorem dX7_readRule_71 : decode cX7_readRule 71 = .ok (.getfield 39, 3) := dk_180 (dw rcX7_readRule_51 10 rfl) rfl
theorem dX7_readRule_74 : decode cX7_readRule 74 = .ok (.invokevirtual 162, 3) := dk_182 (dw rcX7_readRule_51 11 rfl) rfl
theorem dX7_readRule_77 : decode cX7_readRule 77 = .ok (.ifCond .ne 5, 3) := dk_154 (dw rcX7_readRule_51 12 rfl) rfl
theorem dX7_readRule_80 : decode cX7_readRule 80 = .ok (.iconst 0, 1) := dk_3 (dw rcX7_readRule_51 13 rfl)
theorem dX7_readRule_81 : decode cX7_readRule 81 = .ok (.ireturn, 1) := dk_172 (dw rcX7_readRule_51 14 rfl)
theorem dX7_readRule_82 : decode cX7_readRule 82 = .ok (.aload_n 0, 1) := dk_42 (dw rcX7_readRule_51 15 rfl)
theorem dX7_readRule_83 : decode cX7_readRule 83 = .ok (.getfield 39, 3) := dk_180 (dw rcX7_readRule_51 16 rfl) rfl
theorem dX7_readRule_86 : decode cX7_readRule 86 = .ok (.dup, 1) := dk_89 (dw rcX7_readRule_51 17 rfl)
theorem dX7_readRule_87 : decode cX7_readRule 87 = .ok (.getfield 153, 3) := dk_180 (dw rcX7_readRule_51 18 rfl) rfl
theorem dX7_readRule_90 : decode cX7_readRule 90 = .ok (.iconst 1, 1) := dk_4 (dw rcX7_readRule_51 19 rfl)
theorem dX7_readRule_91 : decode cX7_readRule 91 = .ok (.iadd, 1) := dk_96 (dw rcX7_readRule_51 20 rfl)
theorem dX7_readRule_92 : decode cX7_readRule 92 = .ok (.putfield 153, 3) := dk_181 (dw rcX7_readRule_51 21 rfl) rfl
theorem dX7_readRule_95 : decode cX7_readRule 95 = .ok (.aload_n 0, 1) := dk_42 (dw rcX7_readRule_51 22 rfl)
theorem dX7_readRule_96 : decode cX7_readRule 96 = .ok (.getfield 39, 3) := dk_180 (dw rcX7_readRule_51 23 rfl) rfl
noncomputable def rbX7_readRule_99 : List (Nat × List Nat) := [(99, [180, 0, 156]), (102, [42]), (103, [180, 0, 39]), (106, [180, 0, 153]), (109, [42]), (110, [180, 0, 39]), (113, [180, 0, 159]), (116, [79]), (117, [42]), (118, [180, 0, 26]), (121, [16, 59]), (123, [182, 0, 115]), (126, [172])]
theorem rcX7_readRule_99 : dgo (lb cX7_readRule) 0 rbX7_readRule_99 = true := by decide +kernel
theorem dX7_readRule_99 : decode cX7_readRule 99 = .ok (.getfield 156, 3) := dk_180 (dw rcX7_readRule_99 0 rfl) rfl
theorem dX7_readRule_102 : decode cX7_readRule 102 = .ok (.aload_n 0, 1) := dk_42 (dw rcX7_readRule_99 1 rfl)
theorem dX7_readRule_103 : decode cX7_readRule 103 = .ok (.getfield 39, 3) := dk_180 (dw rcX7_readRule_99 2 rfl) rfl
theorem dX7_readRule_106 : decode cX7_readRule 106 = .ok (.getfield 153, 3) := dk_180 (dw rcX7_readRule_99 3 rfl) rfl
theorem dX7_readRule_109 : decode cX7_readRule 109 = .ok (.aload_n 0, 1) := dk_42 (dw rcX7_readRule_99 4 rfl)
theorem dX7_readRule_110 : decode cX7_readRule 110 = .ok (.getfield 39, 3) := dk_180 (dw rcX7_readRule_99 5 rfl) rfl
theorem dX7_readRule_113 : decode cX7_readRule 113 = .ok (.getfield 159, 3) := dk_180 (dw rcX7_readRule_99 6 rfl) rfl
theorem dX7_readRule_116 : decode cX7_readRule 116 = .ok (.iastore, 1) := dk_79 (dw rcX7_readRule_99 7 rfl)
theorem dX7_readRule_117 : decode cX7_readRule 117 = .ok (.aload_n 0, 1) := dk_42 (dw rcX7_readRule_99 8 rfl)
theorem dX7_readRule_118 : decode cX7_readRule 118 = .ok (.getfield 26, 3) := dk_180 (dw rcX7_readRule_99 9 rfl) rfl
theorem dX7_readRule_121 : decode cX7_readRule 121 = .ok (.bipush 59, 2) := dk_16 (dw rcX7_readRule_99 10 rfl) rfl
theorem dX7_readRule_123 : decode cX7_readRule 123 = .ok (.invokevirtual 115, 3) := dk_182 (dw rcX7_readRule_99 11 rfl) rfl
theorem dX7_readRule_126 : decode cX7_readRule 126 = .ok (.ireturn, 1) := dk_172 (dw rcX7_readRule_99 12 rfl)
noncomputable def rbX7_readSlab_0 : List (Nat × List Nat) := [(0, [27]), (1, [154, 0, 7]), (4, [3]), (5, [167, 0, 4]), (8, [28]), (9, [62]), (10, [17, 1, 144]), (13, [42]), (14, [180, 0, 39]), (17, [180, 0, 121]), (20, [42]), (21, [180, 0, 39]), (24, [180, 0, 104]), (27, [46]), (28, [100]), (29, [29]), (30, [100]), (31, [54, 4]), (33, [42]), (34, [4]), (35, [16, 60]), (37, [21, 4]), (39, [184, 0, 128]), (42, [182, 0, 100])]
theorem rcX7_readSlab_0 : dgo (lb cX7_readSlab) 0 rbX7_readSlab_0 = true := by decide +kernel
theorem dX7_readSlab_0 : decode cX7_readSlab 0 = .ok (.iload_n 1, 1) := dk_27 (dw rcX7_readSlab_0 0 rfl)
theorem dX7_readSlab_1 : decode cX7_readSlab 1 = .ok (.ifCond .ne 7, 3) := dk_154 (dw rcX7_readSlab_0 1 rfl) rfl
theorem dX7_readSlab_4 : decode cX7_readSlab 4 = .ok (.iconst 0, 1) := dk_3 (dw rcX7_readSlab_0 2 rfl)
theorem dX7_readSlab_5 : decode cX7_readSlab 5 = .ok (.goto 4, 3) := dk_167 (dw rcX7_readSlab_0 3 rfl) rfl
theorem dX7_readSlab_8 : decode cX7_readSlab 8 = .ok (.iload_n 2, 1) := dk_28 (dw rcX7_readSlab_0 4 rfl)
theorem dX7_readSlab_9 : decode cX7_readSlab 9 = .ok (.istore_n 3, 1) := dk_62 (dw rcX7_readSlab_0 5 rfl)
theorem dX7_readSlab_10 : decode cX7_readSlab 10 = .ok (.sipush 400, 3) := dk_17 (dw rcX7_readSlab_0 6 rfl) rfl
theorem dX7_readSlab_13 : decode cX7_readSlab 13 = .ok (.aload_n 0, 1) := dk_42 (dw rcX7_readSlab_0 7 rfl)
theorem dX7_readSlab_14 : decode cX7_readSlab 14 = .ok (.getfield 39, 3) := dk_180 (dw rcX7_readSlab_0 8 rfl) rfl
theorem dX7_readSlab_17 : decode cX7_readSlab 17 = .ok (.getfield 121, 3) := dk_180 (dw rcX7_readSlab_0 9 rfl) rfl
theorem dX7_readSlab_20 : decode cX7_readSlab 20 = .ok (.aload_n 0, 1) := dk_42 (dw rcX7_readSlab_0 10 rfl)
theorem dX7_readSlab_21 : decode cX7_readSlab 21 = .ok (.getfield 39, 3) := dk_180 (dw rcX7_readSlab_0 11 rfl) rfl
theorem dX7_readSlab_24 : decode cX7_readSlab 24 = .ok (.getfield 104, 3) := dk_180 (dw rcX7_readSlab_0 12 rfl) rfl
theorem dX7_readSlab_27 : decode cX7_readSlab 27 = .ok (.iaload, 1) := dk_46 (dw rcX7_readSlab_0 13 rfl)
theorem dX7_readSlab_28 : decode cX7_readSlab 28 = .ok (.isub, 1) := dk_100 (dw rcX7_readSlab_0 14 rfl)
theorem dX7_readSlab_29 : decode cX7_readSlab 29 = .ok (.iload_n 3, 1) := dk_29 (dw rcX7_readSlab_0 15 rfl)
theorem dX7_readSlab_30 : decode cX7_readSlab 30 = .ok (.isub, 1) := dk_100 (dw rcX7_readSlab_0 16 rfl)
theorem dX7_readSlab_31 : decode cX7_readSlab 31 = .ok (.istore 4, 2) := dk_54 (dw rcX7_readSlab_0 17 rfl)
theorem dX7_readSlab_33 : decode cX7_readSlab 33 = .ok (.aload_n 0, 1) := dk_42 (dw rcX7_readSlab_0 18 rfl)
theorem dX7_readSlab_34 : decode cX7_readSlab 34 = .ok (.iconst 1, 1) := dk_4 (dw rcX7_readSlab_0 19 rfl)
theorem dX7_readSlab_35 : decode cX7_readSlab 35 = .ok (.bipush 60, 2) := dk_16 (dw rcX7_readSlab_0 20 rfl) rfl
theorem dX7_readSlab_37 : decode cX7_readSlab 37 = .ok (.iload 4, 2) := dk_21 (dw rcX7_readSlab_0 21 rfl)
theorem dX7_readSlab_39 : decode cX7_readSlab 39 = .ok (.invokestatic 128, 3) := dk_184 (dw rcX7_readSlab_0 22 rfl) rfl
theorem dX7_readSlab_42 : decode cX7_readSlab 42 = .ok (.invokevirtual 100, 3) := dk_182 (dw rcX7_readSlab_0 23 rfl) rfl
noncomputable def rbX7_readSlab_45 : List (Nat × List Nat) := [(45, [154, 0, 5]), (48, [3]), (49, [172]), (50, [42]), (51, [180, 0, 99]), (54, [54, 5]), (56, [3]), (57, [54, 6]), (59, [42]), (60, [180, 0, 26]), (63, [182, 0, 89]), (66, [87]), (67, [3]), (68, [54, 7]), (70, [21, 7]), (72, [7]), (73, [163, 0, 82]), (76, [42]), (77, [180, 0, 26]), (80, [180, 0, 62]), (83, [17, 0, 140]), (86, [161, 0, 69]), (89, [42]), (90, [180, 0, 26])]
theorem rcX7_readSlab_45 : dgo (lb cX7_readSlab) 0 rbX7_readSlab_45 = true := by decide +kernel
theorem dX7_readSlab_45 : decode cX7_readSlab 45 = .ok (.ifCond .ne 5, 3) := dk_154 (dw rcX7_readSlab_45 0 rfl) rfl
theorem dX7_readSlab_48 : decode cX7_readSlab 48 = .ok (.iconst 0, 1) := dk_3 (dw rcX7_readSlab_45 1 rfl)
theorem dX7_readSlab_49 : decode cX7_readSlab 49 = .ok (.ireturn, 1) := dk_172 (dw rcX7_readSlab_45 2 rfl)
theorem dX7_readSlab_50 : decode cX7_readSlab 50 = .ok (.aload_n 0, 1) := dk_42 (dw rcX7_readSlab_45 3 rfl)
theorem dX7_readSlab_51 : decode cX7_readSlab 51 = .ok (.getfield 99, 3) := dk_180 (dw rcX7_readSlab_45 4 rfl) rfl
theorem dX7_readSlab_54 : decode cX7_readSlab 54 = .ok (.istore 5, 2) := dk_54 (dw rcX7_readSlab_45 5 rfl)
theorem dX7_readSlab_56 : decode cX7_readSlab 56 = .ok (.iconst 0, 1) := dk_3 (dw rcX7_readSlab_45 6 rfl)
theorem dX7_readSlab_57 : decode cX7_readSlab 57 = .ok (.istore 6, 2) := dk_54 (dw rcX7_readSlab_45 7 rfl)
theorem dX7_readSlab_59 : decode cX7_readSlab 59 = .ok (.aload_n 0, 1) := dk_42 (dw rcX7_readSlab_45 8 rfl)
theorem dX7_readSlab_60 : decode cX7_readSlab 60 = .ok (.getfield 26, 3) := dk_180 (dw rcX7_readSlab_45 9 rfl) rfl
theorem dX7_readSlab_63 : decode cX7_readSlab 63 = .ok (.invokevirtual 89, 3) := dk_182 (dw rcX7_readSlab_45 10 rfl) rfl
theorem dX7_readSlab_66 : decode cX7_readSlab 66 = .ok (.pop, 1) := dk_87 (dw rcX7_readSlab_45 11 rfl)
theorem dX7_readSlab_67 : decode cX7_readSlab 67 = .ok (.iconst 0, 1) := dk_3 (dw rcX7_readSlab_45 12 rfl)
theorem dX7_readSlab_68 : decode cX7_readSlab 68 = .ok (.istore 7, 2) := dk_54 (dw rcX7_readSlab_45 13 rfl)
theorem dX7_readSlab_70 : decode cX7_readSlab 70 = .ok (.iload 7, 2) := dk_21 (dw rcX7_readSlab_45 14 rfl)
theorem dX7_readSlab_72 : decode cX7_readSlab 72 = .ok (.iconst 4, 1) := dk_7 (dw rcX7_readSlab_45 15 rfl)
theorem dX7_readSlab_73 : decode cX7_readSlab 73 = .ok (.if_icmp .gt 82, 3) := dk_163 (dw rcX7_readSlab_45 16 rfl) rfl
theorem dX7_readSlab_76 : decode cX7_readSlab 76 = .ok (.aload_n 0, 1) := dk_42 (dw rcX7_readSlab_45 17 rfl)
theorem dX7_readSlab_77 : decode cX7_readSlab 77 = .ok (.getfield 26, 3) := dk_180 (dw rcX7_readSlab_45 18 rfl) rfl
theorem dX7_readSlab_80 : decode cX7_readSlab 80 = .ok (.getfield 62, 3) := dk_180 (dw rcX7_readSlab_45 19 rfl) rfl
theorem dX7_readSlab_83 : decode cX7_readSlab 83 = .ok (.sipush 140, 3) := dk_17 (dw rcX7_readSlab_45 20 rfl) rfl
theorem dX7_readSlab_86 : decode cX7_readSlab 86 = .ok (.if_icmp .lt 69, 3) := dk_161 (dw rcX7_readSlab_45 21 rfl) rfl
theorem dX7_readSlab_89 : decode cX7_readSlab 89 = .ok (.aload_n 0, 1) := dk_42 (dw rcX7_readSlab_45 22 rfl)
theorem dX7_readSlab_90 : decode cX7_readSlab 90 = .ok (.getfield 26, 3) := dk_180 (dw rcX7_readSlab_45 23 rfl) rfl
noncomputable def rbX7_readSlab_93 : List (Nat × List Nat) := [(93, [180, 0, 62]), (96, [17, 0, 143]), (99, [163, 0, 56]), (102, [4]), (103, [42]), (104, [180, 0, 26]), (107, [180, 0, 62]), (110, [17, 0, 140]), (113, [100]), (114, [120]), (115, [54, 8]), (117, [21, 6]), (119, [21, 8]), (121, [126]), (122, [153, 0, 12]), (125, [42]), (126, [180, 0, 26]), (129, [5]), (130, [182, 0, 85]), (133, [172]), (134, [21, 6]), (136, [21, 8]), (138, [128]), (139, [54, 6])]
theorem rcX7_readSlab_93 : dgo (lb cX7_readSlab) 0 rbX7_readSlab_93 = true := by decide +kernel
theorem dX7_readSlab_93 : decode cX7_readSlab 93 = .ok (.getfield 62, 3) := dk_180 (dw rcX7_readSlab_93 0 rfl) rfl
theorem dX7_readSlab_96 : decode cX7_readSlab 96 = .ok (.sipush 143, 3) := dk_17 (dw rcX7_readSlab_93 1 rfl) rfl
theorem dX7_readSlab_99 : decode cX7_readSlab 99 = .ok (.if_icmp .gt 56, 3) := dk_163 (dw rcX7_readSlab_93 2 rfl) rfl
theorem dX7_readSlab_102 : decode cX7_readSlab 102 = .ok (.iconst 1, 1) := dk_4 (dw rcX7_readSlab_93 3 rfl)
theorem dX7_readSlab_103 : decode cX7_readSlab 103 = .ok (.aload_n 0, 1) := dk_42 (dw rcX7_readSlab_93 4 rfl)
theorem dX7_readSlab_104 : decode cX7_readSlab 104 = .ok (.getfield 26, 3) := dk_180 (dw rcX7_readSlab_93 5 rfl) rfl
theorem dX7_readSlab_107 : decode cX7_readSlab 107 = .ok (.getfield 62, 3) := dk_180 (dw rcX7_readSlab_93 6 rfl) rfl
theorem dX7_readSlab_110 : decode cX7_readSlab 110 = .ok (.sipush 140, 3) := dk_17 (dw rcX7_readSlab_93 7 rfl) rfl
theorem dX7_readSlab_113 : decode cX7_readSlab 113 = .ok (.isub, 1) := dk_100 (dw rcX7_readSlab_93 8 rfl)
theorem dX7_readSlab_114 : decode cX7_readSlab 114 = .ok (.ishl, 1) := dk_120 (dw rcX7_readSlab_93 9 rfl)
theorem dX7_readSlab_115 : decode cX7_readSlab 115 = .ok (.istore 8, 2) := dk_54 (dw rcX7_readSlab_93 10 rfl)
theorem dX7_readSlab_117 : decode cX7_readSlab 117 = .ok (.iload 6, 2) := dk_21 (dw rcX7_readSlab_93 11 rfl)
theorem dX7_readSlab_119 : decode cX7_readSlab 119 = .ok (.iload 8, 2) := dk_21 (dw rcX7_readSlab_93 12 rfl)
theorem dX7_readSlab_121 : decode cX7_readSlab 121 = .ok (.iand, 1) := dk_126 (dw rcX7_readSlab_93 13 rfl)
theorem dX7_readSlab_122 : decode cX7_readSlab 122 = .ok (.ifCond .eq 12, 3) := dk_153 (dw rcX7_readSlab_93 14 rfl) rfl
theorem dX7_readSlab_125 : decode cX7_readSlab 125 = .ok (.aload_n 0, 1) := dk_42 (dw rcX7_readSlab_93 15 rfl)
theorem dX7_readSlab_126 : decode cX7_readSlab 126 = .ok (.getfield 26, 3) := dk_180 (dw rcX7_readSlab_93 16 rfl) rfl
theorem dX7_readSlab_129 : decode cX7_readSlab 129 = .ok (.iconst 2, 1) := dk_5 (dw rcX7_readSlab_93 17 rfl)
theorem dX7_readSlab_130 : decode cX7_readSlab 130 = .ok (.invokevirtual 85, 3) := dk_182 (dw rcX7_readSlab_93 18 rfl) rfl
theorem dX7_readSlab_133 : decode cX7_readSlab 133 = .ok (.ireturn, 1) := dk_172 (dw rcX7_readSlab_93 19 rfl)
theorem dX7_readSlab_134 : decode cX7_readSlab 134 = .ok (.iload 6, 2) := dk_21 (dw rcX7_readSlab_93 20 rfl)
theorem dX7_readSlab_136 : decode cX7_readSlab 136 = .ok (.iload 8, 2) := dk_21 (dw rcX7_readSlab_93 21 rfl)
theorem dX7_readSlab_138 : decode cX7_readSlab 138 = .ok (.ior, 1) := dk_128 (dw rcX7_readSlab_93 22 rfl)
theorem dX7_readSlab_139 : decode cX7_readSlab 139 = .ok (.istore 6, 2) := dk_54 (dw rcX7_readSlab_93 23 rfl)
noncomputable def rbX7_readSlab_141 : List (Nat × List Nat) := [(141, [42]), (142, [180, 0, 26]), (145, [182, 0, 89]), (148, [87]), (149, [132, 7, 1]), (152, [167, 255, 174]), (155, [27]), (156, [158, 0, 16]), (159, [42]), (160, [180, 0, 39]), (163, [4]), (164, [3]), (165, [27]), (166, [4]), (167, [100]), (168, [29]), (169, [182, 0, 134]), (172, [42]), (173, [180, 0, 39]), (176, [3]), (177, [21, 6]), (179, [27]), (180, [21, 5]), (182, [182, 0, 134])]
theorem rcX7_readSlab_141 : dgo (lb cX7_readSlab) 0 rbX7_readSlab_141 = true := by decide +kernel
theorem dX7_readSlab_141 : decode cX7_readSlab 141 = .ok (.aload_n 0, 1) := dk_42 (dw rcX7_readSlab_141 0 rfl)
theorem dX7_readSlab_142 : decode cX7_readSlab 142 = .ok (.getfield 26, 3) := dk_180 (dw rcX7_readSlab_141 1 rfl) rfl
theorem dX7_readSlab_145 : decode cX7_readSlab 145 = .ok (.invokevirtual 89, 3) := dk_182 (dw rcX7_readSlab_141 2 rfl) rfl
theorem dX7_readSlab_148 : decode cX7_readSlab 148 = .ok (.pop, 1) := dk_87 (dw rcX7_readSlab_141 3 rfl)
theorem dX7_readSlab_149 : decode cX7_readSlab 149 = .ok (.iinc 7 1, 3) := dk_132 (dw rcX7_readSlab_141 4 rfl) rfl
theorem dX7_readSlab_152 : decode cX7_readSlab 152 = .ok (.goto (-82), 3) := dk_167 (dw rcX7_readSlab_141 5 rfl) rfl
theorem dX7_readSlab_155 : decode cX7_readSlab 155 = .ok (.iload_n 1, 1) := dk_27 (dw rcX7_readSlab_141 6 rfl)
theorem dX7_readSlab_156 : decode cX7_readSlab 156 = .ok (.ifCond .le 16, 3) := dk_158 (dw rcX7_readSlab_141 7 rfl) rfl
theorem dX7_readSlab_159 : decode cX7_readSlab 159 = .ok (.aload_n 0, 1) := dk_42 (dw rcX7_readSlab_141 8 rfl)
theorem dX7_readSlab_160 : decode cX7_readSlab 160 = .ok (.getfield 39, 3) := dk_180 (dw rcX7_readSlab_141 9 rfl) rfl
theorem dX7_readSlab_163 : decode cX7_readSlab 163 = .ok (.iconst 1, 1) := dk_4 (dw rcX7_readSlab_141 10 rfl)
theorem dX7_readSlab_164 : decode cX7_readSlab 164 = .ok (.iconst 0, 1) := dk_3 (dw rcX7_readSlab_141 11 rfl)
theorem dX7_readSlab_165 : decode cX7_readSlab 165 = .ok (.iload_n 1, 1) := dk_27 (dw rcX7_readSlab_141 12 rfl)
theorem dX7_readSlab_166 : decode cX7_readSlab 166 = .ok (.iconst 1, 1) := dk_4 (dw rcX7_readSlab_141 13 rfl)
theorem dX7_readSlab_167 : decode cX7_readSlab 167 = .ok (.isub, 1) := dk_100 (dw rcX7_readSlab_141 14 rfl)
theorem dX7_readSlab_168 : decode cX7_readSlab 168 = .ok (.iload_n 3, 1) := dk_29 (dw rcX7_readSlab_141 15 rfl)
theorem dX7_readSlab_169 : decode cX7_readSlab 169 = .ok (.invokevirtual 134, 3) := dk_182 (dw rcX7_readSlab_141 16 rfl) rfl
theorem dX7_readSlab_172 : decode cX7_readSlab 172 = .ok (.aload_n 0, 1) := dk_42 (dw rcX7_readSlab_141 17 rfl)
theorem dX7_readSlab_173 : decode cX7_readSlab 173 = .ok (.getfield 39, 3) := dk_180 (dw rcX7_readSlab_141 18 rfl) rfl
theorem dX7_readSlab_176 : decode cX7_readSlab 176 = .ok (.iconst 0, 1) := dk_3 (dw rcX7_readSlab_141 19 rfl)
theorem dX7_readSlab_177 : decode cX7_readSlab 177 = .ok (.iload 6, 2) := dk_21 (dw rcX7_readSlab_141 20 rfl)
theorem dX7_readSlab_179 : decode cX7_readSlab 179 = .ok (.iload_n 1, 1) := dk_27 (dw rcX7_readSlab_141 21 rfl)
theorem dX7_readSlab_180 : decode cX7_readSlab 180 = .ok (.iload 5, 2) := dk_21 (dw rcX7_readSlab_141 22 rfl)
theorem dX7_readSlab_182 : decode cX7_readSlab 182 = .ok (.invokevirtual 134, 3) := dk_182 (dw rcX7_readSlab_141 23 rfl) rfl
noncomputable def rbX7_readSlab_185 : List (Nat × List Nat) := [(185, [4]), (186, [172])]
theorem rcX7_readSlab_185 : dgo (lb cX7_readSlab) 0 rbX7_readSlab_185 = true := by decide +kernel
theorem dX7_readSlab_185 : decode cX7_readSlab 185 = .ok (.iconst 1, 1) := dk_4 (dw rcX7_readSlab_185 0 rfl)
theorem dX7_readSlab_186 : decode cX7_readSlab 186 = .ok (.ireturn, 1) := dk_172 (dw rcX7_readSlab_185 1 rfl)
noncomputable def rbX7_readSlip_0 : List (Nat × List Nat) := [(0, [42]), (1, [42]), (2, [180, 0, 48]), (5, [154, 0, 7]), (8, [4]), (9, [167, 0, 4]), (12, [3]), (13, [182, 0, 107]), (16, [154, 0, 5]), (19, [3]), (20, [172]), (21, [42]), (22, [4]), (23, [181, 0, 48]), (26, [3]), (27, [60]), (28, [3]), (29, [61]), (30, [28]), (31, [6]), (32, [162, 0, 54]), (35, [42]), (36, [28]), (37, [5])]
theorem rcX7_readSlip_0 : dgo (lb cX7_readSlip) 0 rbX7_readSlip_0 = true := by decide +kernel
theorem dX7_readSlip_0 : decode cX7_readSlip 0 = .ok (.aload_n 0, 1) := dk_42 (dw rcX7_readSlip_0 0 rfl)
theorem dX7_readSlip_1 : decode cX7_readSlip 1 = .ok (.aload_n 0, 1) := dk_42 (dw rcX7_readSlip_0 1 rfl)
theorem dX7_readSlip_2 : decode cX7_readSlip 2 = .ok (.getfield 48, 3) := dk_180 (dw rcX7_readSlip_0 2 rfl) rfl
theorem dX7_readSlip_5 : decode cX7_readSlip 5 = .ok (.ifCond .ne 7, 3) := dk_154 (dw rcX7_readSlip_0 3 rfl) rfl
theorem dX7_readSlip_8 : decode cX7_readSlip 8 = .ok (.iconst 1, 1) := dk_4 (dw rcX7_readSlip_0 4 rfl)
theorem dX7_readSlip_9 : decode cX7_readSlip 9 = .ok (.goto 4, 3) := dk_167 (dw rcX7_readSlip_0 5 rfl) rfl
theorem dX7_readSlip_12 : decode cX7_readSlip 12 = .ok (.iconst 0, 1) := dk_3 (dw rcX7_readSlip_0 6 rfl)
theorem dX7_readSlip_13 : decode cX7_readSlip 13 = .ok (.invokevirtual 107, 3) := dk_182 (dw rcX7_readSlip_0 7 rfl) rfl
theorem dX7_readSlip_16 : decode cX7_readSlip 16 = .ok (.ifCond .ne 5, 3) := dk_154 (dw rcX7_readSlip_0 8 rfl) rfl
theorem dX7_readSlip_19 : decode cX7_readSlip 19 = .ok (.iconst 0, 1) := dk_3 (dw rcX7_readSlip_0 9 rfl)
theorem dX7_readSlip_20 : decode cX7_readSlip 20 = .ok (.ireturn, 1) := dk_172 (dw rcX7_readSlip_0 10 rfl)
theorem dX7_readSlip_21 : decode cX7_readSlip 21 = .ok (.aload_n 0, 1) := dk_42 (dw rcX7_readSlip_0 11 rfl)
theorem dX7_readSlip_22 : decode cX7_readSlip 22 = .ok (.iconst 1, 1) := dk_4 (dw rcX7_readSlip_0 12 rfl)
theorem dX7_readSlip_23 : decode cX7_readSlip 23 = .ok (.putfield 48, 3) := dk_181 (dw rcX7_readSlip_0 13 rfl) rfl
theorem dX7_readSlip_26 : decode cX7_readSlip 26 = .ok (.iconst 0, 1) := dk_3 (dw rcX7_readSlip_0 14 rfl)
theorem dX7_readSlip_27 : decode cX7_readSlip 27 = .ok (.istore_n 1, 1) := dk_60 (dw rcX7_readSlip_0 15 rfl)
theorem dX7_readSlip_28 : decode cX7_readSlip 28 = .ok (.iconst 0, 1) := dk_3 (dw rcX7_readSlip_0 16 rfl)
theorem dX7_readSlip_29 : decode cX7_readSlip 29 = .ok (.istore_n 2, 1) := dk_61 (dw rcX7_readSlip_0 17 rfl)
theorem dX7_readSlip_30 : decode cX7_readSlip 30 = .ok (.iload_n 2, 1) := dk_28 (dw rcX7_readSlip_0 18 rfl)
theorem dX7_readSlip_31 : decode cX7_readSlip 31 = .ok (.iconst 3, 1) := dk_6 (dw rcX7_readSlip_0 19 rfl)
theorem dX7_readSlip_32 : decode cX7_readSlip 32 = .ok (.if_icmp .ge 54, 3) := dk_162 (dw rcX7_readSlip_0 20 rfl) rfl
theorem dX7_readSlip_35 : decode cX7_readSlip 35 = .ok (.aload_n 0, 1) := dk_42 (dw rcX7_readSlip_0 21 rfl)
theorem dX7_readSlip_36 : decode cX7_readSlip 36 = .ok (.iload_n 2, 1) := dk_28 (dw rcX7_readSlip_0 22 rfl)
theorem dX7_readSlip_37 : decode cX7_readSlip 37 = .ok (.iconst 2, 1) := dk_5 (dw rcX7_readSlip_0 23 rfl)
noncomputable def rbX7_readSlip_38 : List (Nat × List Nat) := [(38, [160, 0, 11]), (41, [27]), (42, [154, 0, 7]), (45, [4]), (46, [167, 0, 4]), (49, [3]), (50, [16, 9]), (52, [182, 0, 118]), (55, [154, 0, 5]), (58, [3]), (59, [172]), (60, [42]), (61, [180, 0, 39]), (64, [180, 0, 166]), (67, [28]), (68, [42]), (69, [180, 0, 99]), (72, [79]), (73, [27]), (74, [42]), (75, [180, 0, 99]), (78, [96]), (79, [60]), (80, [132, 2, 1])]
theorem rcX7_readSlip_38 : dgo (lb cX7_readSlip) 0 rbX7_readSlip_38 = true := by decide +kernel
theorem dX7_readSlip_38 : decode cX7_readSlip 38 = .ok (.if_icmp .ne 11, 3) := dk_160 (dw rcX7_readSlip_38 0 rfl) rfl
theorem dX7_readSlip_41 : decode cX7_readSlip 41 = .ok (.iload_n 1, 1) := dk_27 (dw rcX7_readSlip_38 1 rfl)
theorem dX7_readSlip_42 : decode cX7_readSlip 42 = .ok (.ifCond .ne 7, 3) := dk_154 (dw rcX7_readSlip_38 2 rfl) rfl
theorem dX7_readSlip_45 : decode cX7_readSlip 45 = .ok (.iconst 1, 1) := dk_4 (dw rcX7_readSlip_38 3 rfl)
theorem dX7_readSlip_46 : decode cX7_readSlip 46 = .ok (.goto 4, 3) := dk_167 (dw rcX7_readSlip_38 4 rfl) rfl
theorem dX7_readSlip_49 : decode cX7_readSlip 49 = .ok (.iconst 0, 1) := dk_3 (dw rcX7_readSlip_38 5 rfl)
theorem dX7_readSlip_50 : decode cX7_readSlip 50 = .ok (.bipush 9, 2) := dk_16 (dw rcX7_readSlip_38 6 rfl) rfl
theorem dX7_readSlip_52 : decode cX7_readSlip 52 = .ok (.invokevirtual 118, 3) := dk_182 (dw rcX7_readSlip_38 7 rfl) rfl
theorem dX7_readSlip_55 : decode cX7_readSlip 55 = .ok (.ifCond .ne 5, 3) := dk_154 (dw rcX7_readSlip_38 8 rfl) rfl
theorem dX7_readSlip_58 : decode cX7_readSlip 58 = .ok (.iconst 0, 1) := dk_3 (dw rcX7_readSlip_38 9 rfl)
theorem dX7_readSlip_59 : decode cX7_readSlip 59 = .ok (.ireturn, 1) := dk_172 (dw rcX7_readSlip_38 10 rfl)
theorem dX7_readSlip_60 : decode cX7_readSlip 60 = .ok (.aload_n 0, 1) := dk_42 (dw rcX7_readSlip_38 11 rfl)
theorem dX7_readSlip_61 : decode cX7_readSlip 61 = .ok (.getfield 39, 3) := dk_180 (dw rcX7_readSlip_38 12 rfl) rfl
theorem dX7_readSlip_64 : decode cX7_readSlip 64 = .ok (.getfield 166, 3) := dk_180 (dw rcX7_readSlip_38 13 rfl) rfl
theorem dX7_readSlip_67 : decode cX7_readSlip 67 = .ok (.iload_n 2, 1) := dk_28 (dw rcX7_readSlip_38 14 rfl)
theorem dX7_readSlip_68 : decode cX7_readSlip 68 = .ok (.aload_n 0, 1) := dk_42 (dw rcX7_readSlip_38 15 rfl)
theorem dX7_readSlip_69 : decode cX7_readSlip 69 = .ok (.getfield 99, 3) := dk_180 (dw rcX7_readSlip_38 16 rfl) rfl
theorem dX7_readSlip_72 : decode cX7_readSlip 72 = .ok (.iastore, 1) := dk_79 (dw rcX7_readSlip_38 17 rfl)
theorem dX7_readSlip_73 : decode cX7_readSlip 73 = .ok (.iload_n 1, 1) := dk_27 (dw rcX7_readSlip_38 18 rfl)
theorem dX7_readSlip_74 : decode cX7_readSlip 74 = .ok (.aload_n 0, 1) := dk_42 (dw rcX7_readSlip_38 19 rfl)
theorem dX7_readSlip_75 : decode cX7_readSlip 75 = .ok (.getfield 99, 3) := dk_180 (dw rcX7_readSlip_38 20 rfl) rfl
theorem dX7_readSlip_78 : decode cX7_readSlip 78 = .ok (.iadd, 1) := dk_96 (dw rcX7_readSlip_38 21 rfl)
theorem dX7_readSlip_79 : decode cX7_readSlip 79 = .ok (.istore_n 1, 1) := dk_60 (dw rcX7_readSlip_38 22 rfl)
theorem dX7_readSlip_80 : decode cX7_readSlip 80 = .ok (.iinc 2 1, 3) := dk_132 (dw rcX7_readSlip_38 23 rfl) rfl
noncomputable def rbX7_readSlip_83 : List (Nat × List Nat) := [(83, [167, 255, 203]), (86, [42]), (87, [180, 0, 26]), (90, [16, 59]), (92, [182, 0, 115]), (95, [172])]
theorem rcX7_readSlip_83 : dgo (lb cX7_readSlip) 0 rbX7_readSlip_83 = true := by decide +kernel
theorem dX7_readSlip_83 : decode cX7_readSlip 83 = .ok (.goto (-53), 3) := dk_167 (dw rcX7_readSlip_83 0 rfl) rfl
theorem dX7_readSlip_86 : decode cX7_readSlip 86 = .ok (.aload_n 0, 1) := dk_42 (dw rcX7_readSlip_83 1 rfl)
theorem dX7_readSlip_87 : decode cX7_readSlip 87 = .ok (.getfield 26, 3) := dk_180 (dw rcX7_readSlip_83 2 rfl) rfl
theorem dX7_readSlip_90 : decode cX7_readSlip 90 = .ok (.bipush 59, 2) := dk_16 (dw rcX7_readSlip_83 3 rfl) rfl
theorem dX7_readSlip_92 : decode cX7_readSlip 92 = .ok (.invokevirtual 115, 3) := dk_182 (dw rcX7_readSlip_83 4 rfl) rfl
theorem dX7_readSlip_95 : decode cX7_readSlip 95 = .ok (.ireturn, 1) := dk_172 (dw rcX7_readSlip_83 5 rfl)
noncomputable def rbX7_readStreet_0 : List (Nat × List Nat) := [(0, [42]), (1, [42]), (2, [180, 0, 39]), (5, [180, 0, 104]), (8, [6]), (9, [162, 0, 7]), (12, [4]), (13, [167, 0, 4]), (16, [3]), (17, [182, 0, 107]), (20, [153, 0, 44]), (23, [42]), (24, [42]), (25, [180, 0, 9]), (28, [42]), (29, [180, 0, 39]), (32, [180, 0, 104]), (35, [182, 0, 111]), (38, [153, 0, 26]), (41, [42]), (42, [180, 0, 26]), (45, [17, 0, 139]), (48, [182, 0, 115]), (51, [153, 0, 13])]
theorem rcX7_readStreet_0 : dgo (lb cX7_readStreet) 0 rbX7_readStreet_0 = true := by decide +kernel
theorem dX7_readStreet_0 : decode cX7_readStreet 0 = .ok (.aload_n 0, 1) := dk_42 (dw rcX7_readStreet_0 0 rfl)
theorem dX7_readStreet_1 : decode cX7_readStreet 1 = .ok (.aload_n 0, 1) := dk_42 (dw rcX7_readStreet_0 1 rfl)
theorem dX7_readStreet_2 : decode cX7_readStreet 2 = .ok (.getfield 39, 3) := dk_180 (dw rcX7_readStreet_0 2 rfl) rfl
theorem dX7_readStreet_5 : decode cX7_readStreet 5 = .ok (.getfield 104, 3) := dk_180 (dw rcX7_readStreet_0 3 rfl) rfl
theorem dX7_readStreet_8 : decode cX7_readStreet 8 = .ok (.iconst 3, 1) := dk_6 (dw rcX7_readStreet_0 4 rfl)
theorem dX7_readStreet_9 : decode cX7_readStreet 9 = .ok (.if_icmp .ge 7, 3) := dk_162 (dw rcX7_readStreet_0 5 rfl) rfl
theorem dX7_readStreet_12 : decode cX7_readStreet 12 = .ok (.iconst 1, 1) := dk_4 (dw rcX7_readStreet_0 6 rfl)
theorem dX7_readStreet_13 : decode cX7_readStreet 13 = .ok (.goto 4, 3) := dk_167 (dw rcX7_readStreet_0 7 rfl) rfl
theorem dX7_readStreet_16 : decode cX7_readStreet 16 = .ok (.iconst 0, 1) := dk_3 (dw rcX7_readStreet_0 8 rfl)
theorem dX7_readStreet_17 : decode cX7_readStreet 17 = .ok (.invokevirtual 107, 3) := dk_182 (dw rcX7_readStreet_0 9 rfl) rfl
theorem dX7_readStreet_20 : decode cX7_readStreet 20 = .ok (.ifCond .eq 44, 3) := dk_153 (dw rcX7_readStreet_0 10 rfl) rfl
theorem dX7_readStreet_23 : decode cX7_readStreet 23 = .ok (.aload_n 0, 1) := dk_42 (dw rcX7_readStreet_0 11 rfl)
theorem dX7_readStreet_24 : decode cX7_readStreet 24 = .ok (.aload_n 0, 1) := dk_42 (dw rcX7_readStreet_0 12 rfl)
theorem dX7_readStreet_25 : decode cX7_readStreet 25 = .ok (.getfield 9, 3) := dk_180 (dw rcX7_readStreet_0 13 rfl) rfl
theorem dX7_readStreet_28 : decode cX7_readStreet 28 = .ok (.aload_n 0, 1) := dk_42 (dw rcX7_readStreet_0 14 rfl)
theorem dX7_readStreet_29 : decode cX7_readStreet 29 = .ok (.getfield 39, 3) := dk_180 (dw rcX7_readStreet_0 15 rfl) rfl
theorem dX7_readStreet_32 : decode cX7_readStreet 32 = .ok (.getfield 104, 3) := dk_180 (dw rcX7_readStreet_0 16 rfl) rfl
theorem dX7_readStreet_35 : decode cX7_readStreet 35 = .ok (.invokevirtual 111, 3) := dk_182 (dw rcX7_readStreet_0 17 rfl) rfl
theorem dX7_readStreet_38 : decode cX7_readStreet 38 = .ok (.ifCond .eq 26, 3) := dk_153 (dw rcX7_readStreet_0 18 rfl) rfl
theorem dX7_readStreet_41 : decode cX7_readStreet 41 = .ok (.aload_n 0, 1) := dk_42 (dw rcX7_readStreet_0 19 rfl)
theorem dX7_readStreet_42 : decode cX7_readStreet 42 = .ok (.getfield 26, 3) := dk_180 (dw rcX7_readStreet_0 20 rfl) rfl
theorem dX7_readStreet_45 : decode cX7_readStreet 45 = .ok (.sipush 139, 3) := dk_17 (dw rcX7_readStreet_0 21 rfl) rfl
theorem dX7_readStreet_48 : decode cX7_readStreet 48 = .ok (.invokevirtual 115, 3) := dk_182 (dw rcX7_readStreet_0 22 rfl) rfl
theorem dX7_readStreet_51 : decode cX7_readStreet 51 = .ok (.ifCond .eq 13, 3) := dk_153 (dw rcX7_readStreet_0 23 rfl) rfl
noncomputable def rbX7_readStreet_54 : List (Nat × List Nat) := [(54, [42]), (55, [3]), (56, [16, 9]), (58, [182, 0, 118]), (61, [154, 0, 5]), (64, [3]), (65, [172]), (66, [42]), (67, [180, 0, 99]), (70, [60]), (71, [42]), (72, [180, 0, 39]), (75, [180, 0, 121]), (78, [42]), (79, [180, 0, 39]), (82, [180, 0, 104]), (85, [3]), (86, [79]), (87, [3]), (88, [61]), (89, [28]), (90, [17, 6, 64]), (93, [162, 0, 37]), (96, [28])]
theorem rcX7_readStreet_54 : dgo (lb cX7_readStreet) 0 rbX7_readStreet_54 = true := by decide +kernel
theorem dX7_readStreet_54 : decode cX7_readStreet 54 = .ok (.aload_n 0, 1) := dk_42 (dw rcX7_readStreet_54 0 rfl)
theorem dX7_readStreet_55 : decode cX7_readStreet 55 = .ok (.iconst 0, 1) := dk_3 (dw rcX7_readStreet_54 1 rfl)
theorem dX7_readStreet_56 : decode cX7_readStreet 56 = .ok (.bipush 9, 2) := dk_16 (dw rcX7_readStreet_54 2 rfl) rfl
theorem dX7_readStreet_58 : decode cX7_readStreet 58 = .ok (.invokevirtual 118, 3) := dk_182 (dw rcX7_readStreet_54 3 rfl) rfl
theorem dX7_readStreet_61 : decode cX7_readStreet 61 = .ok (.ifCond .ne 5, 3) := dk_154 (dw rcX7_readStreet_54 4 rfl) rfl
theorem dX7_readStreet_64 : decode cX7_readStreet 64 = .ok (.iconst 0, 1) := dk_3 (dw rcX7_readStreet_54 5 rfl)
theorem dX7_readStreet_65 : decode cX7_readStreet 65 = .ok (.ireturn, 1) := dk_172 (dw rcX7_readStreet_54 6 rfl)
theorem dX7_readStreet_66 : decode cX7_readStreet 66 = .ok (.aload_n 0, 1) := dk_42 (dw rcX7_readStreet_54 7 rfl)
theorem dX7_readStreet_67 : decode cX7_readStreet 67 = .ok (.getfield 99, 3) := dk_180 (dw rcX7_readStreet_54 8 rfl) rfl
theorem dX7_readStreet_70 : decode cX7_readStreet 70 = .ok (.istore_n 1, 1) := dk_60 (dw rcX7_readStreet_54 9 rfl)
theorem dX7_readStreet_71 : decode cX7_readStreet 71 = .ok (.aload_n 0, 1) := dk_42 (dw rcX7_readStreet_54 10 rfl)
theorem dX7_readStreet_72 : decode cX7_readStreet 72 = .ok (.getfield 39, 3) := dk_180 (dw rcX7_readStreet_54 11 rfl) rfl
theorem dX7_readStreet_75 : decode cX7_readStreet 75 = .ok (.getfield 121, 3) := dk_180 (dw rcX7_readStreet_54 12 rfl) rfl
theorem dX7_readStreet_78 : decode cX7_readStreet 78 = .ok (.aload_n 0, 1) := dk_42 (dw rcX7_readStreet_54 13 rfl)
theorem dX7_readStreet_79 : decode cX7_readStreet 79 = .ok (.getfield 39, 3) := dk_180 (dw rcX7_readStreet_54 14 rfl) rfl
theorem dX7_readStreet_82 : decode cX7_readStreet 82 = .ok (.getfield 104, 3) := dk_180 (dw rcX7_readStreet_54 15 rfl) rfl
theorem dX7_readStreet_85 : decode cX7_readStreet 85 = .ok (.iconst 0, 1) := dk_3 (dw rcX7_readStreet_54 16 rfl)
theorem dX7_readStreet_86 : decode cX7_readStreet 86 = .ok (.iastore, 1) := dk_79 (dw rcX7_readStreet_54 17 rfl)
theorem dX7_readStreet_87 : decode cX7_readStreet 87 = .ok (.iconst 0, 1) := dk_3 (dw rcX7_readStreet_54 18 rfl)
theorem dX7_readStreet_88 : decode cX7_readStreet 88 = .ok (.istore_n 2, 1) := dk_61 (dw rcX7_readStreet_54 19 rfl)
theorem dX7_readStreet_89 : decode cX7_readStreet 89 = .ok (.iload_n 2, 1) := dk_28 (dw rcX7_readStreet_54 20 rfl)
theorem dX7_readStreet_90 : decode cX7_readStreet 90 = .ok (.sipush 1600, 3) := dk_17 (dw rcX7_readStreet_54 21 rfl) rfl
theorem dX7_readStreet_93 : decode cX7_readStreet 93 = .ok (.if_icmp .ge 37, 3) := dk_162 (dw rcX7_readStreet_54 22 rfl) rfl
theorem dX7_readStreet_96 : decode cX7_readStreet 96 = .ok (.iload_n 2, 1) := dk_28 (dw rcX7_readStreet_54 23 rfl)
noncomputable def rbX7_readStreet_97 : List (Nat × List Nat) := [(97, [153, 0, 16]), (100, [42]), (101, [180, 0, 26]), (104, [180, 0, 62]), (107, [17, 0, 201]), (110, [160, 0, 20]), (113, [42]), (114, [28]), (115, [27]), (116, [182, 0, 125]), (119, [154, 0, 5]), (122, [3]), (123, [172]), (124, [132, 2, 1]), (127, [167, 255, 218]), (130, [42]), (131, [180, 0, 26]), (134, [16, 59]), (136, [182, 0, 115]), (139, [154, 0, 5]), (142, [3]), (143, [172]), (144, [42]), (145, [180, 0, 39])]
theorem rcX7_readStreet_97 : dgo (lb cX7_readStreet) 0 rbX7_readStreet_97 = true := by decide +kernel
theorem dX7_readStreet_97 : decode cX7_readStreet 97 = .ok (.ifCond .eq 16, 3) := dk_153 (dw rcX7_readStreet_97 0 rfl) rfl
theorem dX7_readStreet_100 : decode cX7_readStreet 100 = .ok (.aload_n 0, 1) := dk_42 (dw rcX7_readStreet_97 1 rfl)
theorem dX7_readStreet_101 : decode cX7_readStreet 101 = .ok (.getfield 26, 3) := dk_180 (dw rcX7_readStreet_97 2 rfl) rfl
theorem dX7_readStreet_104 : decode cX7_readStreet 104 = .ok (.getfield 62, 3) := dk_180 (dw rcX7_readStreet_97 3 rfl) rfl
theorem dX7_readStreet_107 : decode cX7_readStreet 107 = .ok (.sipush 201, 3) := dk_17 (dw rcX7_readStreet_97 4 rfl) rfl
theorem dX7_readStreet_110 : decode cX7_readStreet 110 = .ok (.if_icmp .ne 20, 3) := dk_160 (dw rcX7_readStreet_97 5 rfl) rfl
theorem dX7_readStreet_113 : decode cX7_readStreet 113 = .ok (.aload_n 0, 1) := dk_42 (dw rcX7_readStreet_97 6 rfl)
theorem dX7_readStreet_114 : decode cX7_readStreet 114 = .ok (.iload_n 2, 1) := dk_28 (dw rcX7_readStreet_97 7 rfl)
theorem dX7_readStreet_115 : decode cX7_readStreet 115 = .ok (.iload_n 1, 1) := dk_27 (dw rcX7_readStreet_97 8 rfl)
theorem dX7_readStreet_116 : decode cX7_readStreet 116 = .ok (.invokevirtual 125, 3) := dk_182 (dw rcX7_readStreet_97 9 rfl) rfl
theorem dX7_readStreet_119 : decode cX7_readStreet 119 = .ok (.ifCond .ne 5, 3) := dk_154 (dw rcX7_readStreet_97 10 rfl) rfl
theorem dX7_readStreet_122 : decode cX7_readStreet 122 = .ok (.iconst 0, 1) := dk_3 (dw rcX7_readStreet_97 11 rfl)
theorem dX7_readStreet_123 : decode cX7_readStreet 123 = .ok (.ireturn, 1) := dk_172 (dw rcX7_readStreet_97 12 rfl)
theorem dX7_readStreet_124 : decode cX7_readStreet 124 = .ok (.iinc 2 1, 3) := dk_132 (dw rcX7_readStreet_97 13 rfl) rfl
theorem dX7_readStreet_127 : decode cX7_readStreet 127 = .ok (.goto (-38), 3) := dk_167 (dw rcX7_readStreet_97 14 rfl) rfl
theorem dX7_readStreet_130 : decode cX7_readStreet 130 = .ok (.aload_n 0, 1) := dk_42 (dw rcX7_readStreet_97 15 rfl)
theorem dX7_readStreet_131 : decode cX7_readStreet 131 = .ok (.getfield 26, 3) := dk_180 (dw rcX7_readStreet_97 16 rfl) rfl
theorem dX7_readStreet_134 : decode cX7_readStreet 134 = .ok (.bipush 59, 2) := dk_16 (dw rcX7_readStreet_97 17 rfl) rfl
theorem dX7_readStreet_136 : decode cX7_readStreet 136 = .ok (.invokevirtual 115, 3) := dk_182 (dw rcX7_readStreet_97 18 rfl) rfl
theorem dX7_readStreet_139 : decode cX7_readStreet 139 = .ok (.ifCond .ne 5, 3) := dk_154 (dw rcX7_readStreet_97 19 rfl) rfl
theorem dX7_readStreet_142 : decode cX7_readStreet 142 = .ok (.iconst 0, 1) := dk_3 (dw rcX7_readStreet_97 20 rfl)
theorem dX7_readStreet_143 : decode cX7_readStreet 143 = .ok (.ireturn, 1) := dk_172 (dw rcX7_readStreet_97 21 rfl)
theorem dX7_readStreet_144 : decode cX7_readStreet 144 = .ok (.aload_n 0, 1) := dk_42 (dw rcX7_readStreet_97 22 rfl)
theorem dX7_readStreet_145 : decode cX7_readStreet 145 = .ok (.getfield 39, 3) := dk_180 (dw rcX7_readStreet_97 23 rfl) rfl
noncomputable def rbX7_readStreet_148 : List (Nat × List Nat) := [(148, [89]), (149, [180, 0, 104]), (152, [4]), (153, [96]), (154, [181, 0, 104]), (157, [4]), (158, [172])]
theorem rcX7_readStreet_148 : dgo (lb cX7_readStreet) 0 rbX7_readStreet_148 = true := by decide +kernel
theorem dX7_readStreet_148 : decode cX7_readStreet 148 = .ok (.dup, 1) := dk_89 (dw rcX7_readStreet_148 0 rfl)
theorem dX7_readStreet_149 : decode cX7_readStreet 149 = .ok (.getfield 104, 3) := dk_180 (dw rcX7_readStreet_148 1 rfl) rfl
theorem dX7_readStreet_152 : decode cX7_readStreet 152 = .ok (.iconst 1, 1) := dk_4 (dw rcX7_readStreet_148 2 rfl)
theorem dX7_readStreet_153 : decode cX7_readStreet 153 = .ok (.iadd, 1) := dk_96 (dw rcX7_readStreet_148 3 rfl)
theorem dX7_readStreet_154 : decode cX7_readStreet 154 = .ok (.putfield 104, 3) := dk_181 (dw rcX7_readStreet_148 4 rfl) rfl
theorem dX7_readStreet_157 : decode cX7_readStreet 157 = .ok (.iconst 1, 1) := dk_4 (dw rcX7_readStreet_148 5 rfl)
theorem dX7_readStreet_158 : decode cX7_readStreet 158 = .ok (.ireturn, 1) := dk_172 (dw rcX7_readStreet_148 6 rfl)
noncomputable def rbX7_readWalker_0 : List (Nat × List Nat) := [(0, [42]), (1, [180, 0, 39]), (4, [180, 0, 138]), (7, [60]), (8, [42]), (9, [27]), (10, [7]), (11, [162, 0, 7]), (14, [4]), (15, [167, 0, 4]), (18, [3]), (19, [182, 0, 107]), (22, [153, 0, 38]), (25, [42]), (26, [42]), (27, [180, 0, 15]), (30, [27]), (31, [182, 0, 111]), (34, [153, 0, 26]), (37, [42]), (38, [180, 0, 26]), (41, [17, 0, 130]), (44, [182, 0, 115]), (47, [153, 0, 13])]
theorem rcX7_readWalker_0 : dgo (lb cX7_readWalker) 0 rbX7_readWalker_0 = true := by decide +kernel
theorem dX7_readWalker_0 : decode cX7_readWalker 0 = .ok (.aload_n 0, 1) := dk_42 (dw rcX7_readWalker_0 0 rfl)
theorem dX7_readWalker_1 : decode cX7_readWalker 1 = .ok (.getfield 39, 3) := dk_180 (dw rcX7_readWalker_0 1 rfl) rfl
theorem dX7_readWalker_4 : decode cX7_readWalker 4 = .ok (.getfield 138, 3) := dk_180 (dw rcX7_readWalker_0 2 rfl) rfl
theorem dX7_readWalker_7 : decode cX7_readWalker 7 = .ok (.istore_n 1, 1) := dk_60 (dw rcX7_readWalker_0 3 rfl)
theorem dX7_readWalker_8 : decode cX7_readWalker 8 = .ok (.aload_n 0, 1) := dk_42 (dw rcX7_readWalker_0 4 rfl)
theorem dX7_readWalker_9 : decode cX7_readWalker 9 = .ok (.iload_n 1, 1) := dk_27 (dw rcX7_readWalker_0 5 rfl)
theorem dX7_readWalker_10 : decode cX7_readWalker 10 = .ok (.iconst 4, 1) := dk_7 (dw rcX7_readWalker_0 6 rfl)
theorem dX7_readWalker_11 : decode cX7_readWalker 11 = .ok (.if_icmp .ge 7, 3) := dk_162 (dw rcX7_readWalker_0 7 rfl) rfl
theorem dX7_readWalker_14 : decode cX7_readWalker 14 = .ok (.iconst 1, 1) := dk_4 (dw rcX7_readWalker_0 8 rfl)
theorem dX7_readWalker_15 : decode cX7_readWalker 15 = .ok (.goto 4, 3) := dk_167 (dw rcX7_readWalker_0 9 rfl) rfl
theorem dX7_readWalker_18 : decode cX7_readWalker 18 = .ok (.iconst 0, 1) := dk_3 (dw rcX7_readWalker_0 10 rfl)
theorem dX7_readWalker_19 : decode cX7_readWalker 19 = .ok (.invokevirtual 107, 3) := dk_182 (dw rcX7_readWalker_0 11 rfl) rfl
theorem dX7_readWalker_22 : decode cX7_readWalker 22 = .ok (.ifCond .eq 38, 3) := dk_153 (dw rcX7_readWalker_0 12 rfl) rfl
theorem dX7_readWalker_25 : decode cX7_readWalker 25 = .ok (.aload_n 0, 1) := dk_42 (dw rcX7_readWalker_0 13 rfl)
theorem dX7_readWalker_26 : decode cX7_readWalker 26 = .ok (.aload_n 0, 1) := dk_42 (dw rcX7_readWalker_0 14 rfl)
theorem dX7_readWalker_27 : decode cX7_readWalker 27 = .ok (.getfield 15, 3) := dk_180 (dw rcX7_readWalker_0 15 rfl) rfl
theorem dX7_readWalker_30 : decode cX7_readWalker 30 = .ok (.iload_n 1, 1) := dk_27 (dw rcX7_readWalker_0 16 rfl)
theorem dX7_readWalker_31 : decode cX7_readWalker 31 = .ok (.invokevirtual 111, 3) := dk_182 (dw rcX7_readWalker_0 17 rfl) rfl
theorem dX7_readWalker_34 : decode cX7_readWalker 34 = .ok (.ifCond .eq 26, 3) := dk_153 (dw rcX7_readWalker_0 18 rfl) rfl
theorem dX7_readWalker_37 : decode cX7_readWalker 37 = .ok (.aload_n 0, 1) := dk_42 (dw rcX7_readWalker_0 19 rfl)
theorem dX7_readWalker_38 : decode cX7_readWalker 38 = .ok (.getfield 26, 3) := dk_180 (dw rcX7_readWalker_0 20 rfl) rfl
theorem dX7_readWalker_41 : decode cX7_readWalker 41 = .ok (.sipush 130, 3) := dk_17 (dw rcX7_readWalker_0 21 rfl) rfl
theorem dX7_readWalker_44 : decode cX7_readWalker 44 = .ok (.invokevirtual 115, 3) := dk_182 (dw rcX7_readWalker_0 22 rfl) rfl
theorem dX7_readWalker_47 : decode cX7_readWalker 47 = .ok (.ifCond .eq 13, 3) := dk_153 (dw rcX7_readWalker_0 23 rfl) rfl
noncomputable def rbX7_readWalker_50 : List (Nat × List Nat) := [(50, [42]), (51, [4]), (52, [16, 12]), (54, [182, 0, 118]), (57, [154, 0, 5]), (60, [3]), (61, [172]), (62, [42]), (63, [180, 0, 39]), (66, [180, 0, 141]), (69, [27]), (70, [42]), (71, [180, 0, 99]), (74, [79]), (75, [42]), (76, [180, 0, 26]), (79, [17, 0, 131]), (82, [182, 0, 115]), (85, [153, 0, 13]), (88, [42]), (89, [4]), (90, [16, 60]), (92, [182, 0, 118]), (95, [154, 0, 5])]
theorem rcX7_readWalker_50 : dgo (lb cX7_readWalker) 0 rbX7_readWalker_50 = true := by decide +kernel
theorem dX7_readWalker_50 : decode cX7_readWalker 50 = .ok (.aload_n 0, 1) := dk_42 (dw rcX7_readWalker_50 0 rfl)
theorem dX7_readWalker_51 : decode cX7_readWalker 51 = .ok (.iconst 1, 1) := dk_4 (dw rcX7_readWalker_50 1 rfl)
theorem dX7_readWalker_52 : decode cX7_readWalker 52 = .ok (.bipush 12, 2) := dk_16 (dw rcX7_readWalker_50 2 rfl) rfl
theorem dX7_readWalker_54 : decode cX7_readWalker 54 = .ok (.invokevirtual 118, 3) := dk_182 (dw rcX7_readWalker_50 3 rfl) rfl
theorem dX7_readWalker_57 : decode cX7_readWalker 57 = .ok (.ifCond .ne 5, 3) := dk_154 (dw rcX7_readWalker_50 4 rfl) rfl
theorem dX7_readWalker_60 : decode cX7_readWalker 60 = .ok (.iconst 0, 1) := dk_3 (dw rcX7_readWalker_50 5 rfl)
theorem dX7_readWalker_61 : decode cX7_readWalker 61 = .ok (.ireturn, 1) := dk_172 (dw rcX7_readWalker_50 6 rfl)
theorem dX7_readWalker_62 : decode cX7_readWalker 62 = .ok (.aload_n 0, 1) := dk_42 (dw rcX7_readWalker_50 7 rfl)
theorem dX7_readWalker_63 : decode cX7_readWalker 63 = .ok (.getfield 39, 3) := dk_180 (dw rcX7_readWalker_50 8 rfl) rfl
theorem dX7_readWalker_66 : decode cX7_readWalker 66 = .ok (.getfield 141, 3) := dk_180 (dw rcX7_readWalker_50 9 rfl) rfl
theorem dX7_readWalker_69 : decode cX7_readWalker 69 = .ok (.iload_n 1, 1) := dk_27 (dw rcX7_readWalker_50 10 rfl)
theorem dX7_readWalker_70 : decode cX7_readWalker 70 = .ok (.aload_n 0, 1) := dk_42 (dw rcX7_readWalker_50 11 rfl)
theorem dX7_readWalker_71 : decode cX7_readWalker 71 = .ok (.getfield 99, 3) := dk_180 (dw rcX7_readWalker_50 12 rfl) rfl
theorem dX7_readWalker_74 : decode cX7_readWalker 74 = .ok (.iastore, 1) := dk_79 (dw rcX7_readWalker_50 13 rfl)
theorem dX7_readWalker_75 : decode cX7_readWalker 75 = .ok (.aload_n 0, 1) := dk_42 (dw rcX7_readWalker_50 14 rfl)
theorem dX7_readWalker_76 : decode cX7_readWalker 76 = .ok (.getfield 26, 3) := dk_180 (dw rcX7_readWalker_50 15 rfl) rfl
theorem dX7_readWalker_79 : decode cX7_readWalker 79 = .ok (.sipush 131, 3) := dk_17 (dw rcX7_readWalker_50 16 rfl) rfl
theorem dX7_readWalker_82 : decode cX7_readWalker 82 = .ok (.invokevirtual 115, 3) := dk_182 (dw rcX7_readWalker_50 17 rfl) rfl
theorem dX7_readWalker_85 : decode cX7_readWalker 85 = .ok (.ifCond .eq 13, 3) := dk_153 (dw rcX7_readWalker_50 18 rfl) rfl
theorem dX7_readWalker_88 : decode cX7_readWalker 88 = .ok (.aload_n 0, 1) := dk_42 (dw rcX7_readWalker_50 19 rfl)
theorem dX7_readWalker_89 : decode cX7_readWalker 89 = .ok (.iconst 1, 1) := dk_4 (dw rcX7_readWalker_50 20 rfl)
theorem dX7_readWalker_90 : decode cX7_readWalker 90 = .ok (.bipush 60, 2) := dk_16 (dw rcX7_readWalker_50 21 rfl) rfl
theorem dX7_readWalker_92 : decode cX7_readWalker 92 = .ok (.invokevirtual 118, 3) := dk_182 (dw rcX7_readWalker_50 22 rfl) rfl
theorem dX7_readWalker_95 : decode cX7_readWalker 95 = .ok (.ifCond .ne 5, 3) := dk_154 (dw rcX7_readWalker_50 23 rfl) rfl
noncomputable def rbX7_readWalker_98 : List (Nat × List Nat) := [(98, [3]), (99, [172]), (100, [42]), (101, [180, 0, 39]), (104, [180, 0, 144]), (107, [27]), (108, [42]), (109, [180, 0, 99]), (112, [79]), (113, [42]), (114, [180, 0, 26]), (117, [17, 0, 132]), (120, [182, 0, 115]), (123, [153, 0, 21]), (126, [42]), (127, [42]), (128, [180, 0, 39]), (131, [180, 0, 144]), (134, [27]), (135, [46]), (136, [16, 60]), (138, [182, 0, 118]), (141, [154, 0, 5]), (144, [3])]
theorem rcX7_readWalker_98 : dgo (lb cX7_readWalker) 0 rbX7_readWalker_98 = true := by decide +kernel
theorem dX7_readWalker_98 : decode cX7_readWalker 98 = .ok (.iconst 0, 1) := dk_3 (dw rcX7_readWalker_98 0 rfl)
theorem dX7_readWalker_99 : decode cX7_readWalker 99 = .ok (.ireturn, 1) := dk_172 (dw rcX7_readWalker_98 1 rfl)
theorem dX7_readWalker_100 : decode cX7_readWalker 100 = .ok (.aload_n 0, 1) := dk_42 (dw rcX7_readWalker_98 2 rfl)
theorem dX7_readWalker_101 : decode cX7_readWalker 101 = .ok (.getfield 39, 3) := dk_180 (dw rcX7_readWalker_98 3 rfl) rfl
theorem dX7_readWalker_104 : decode cX7_readWalker 104 = .ok (.getfield 144, 3) := dk_180 (dw rcX7_readWalker_98 4 rfl) rfl
theorem dX7_readWalker_107 : decode cX7_readWalker 107 = .ok (.iload_n 1, 1) := dk_27 (dw rcX7_readWalker_98 5 rfl)
theorem dX7_readWalker_108 : decode cX7_readWalker 108 = .ok (.aload_n 0, 1) := dk_42 (dw rcX7_readWalker_98 6 rfl)
theorem dX7_readWalker_109 : decode cX7_readWalker 109 = .ok (.getfield 99, 3) := dk_180 (dw rcX7_readWalker_98 7 rfl) rfl
theorem dX7_readWalker_112 : decode cX7_readWalker 112 = .ok (.iastore, 1) := dk_79 (dw rcX7_readWalker_98 8 rfl)
theorem dX7_readWalker_113 : decode cX7_readWalker 113 = .ok (.aload_n 0, 1) := dk_42 (dw rcX7_readWalker_98 9 rfl)
theorem dX7_readWalker_114 : decode cX7_readWalker 114 = .ok (.getfield 26, 3) := dk_180 (dw rcX7_readWalker_98 10 rfl) rfl
theorem dX7_readWalker_117 : decode cX7_readWalker 117 = .ok (.sipush 132, 3) := dk_17 (dw rcX7_readWalker_98 11 rfl) rfl
theorem dX7_readWalker_120 : decode cX7_readWalker 120 = .ok (.invokevirtual 115, 3) := dk_182 (dw rcX7_readWalker_98 12 rfl) rfl
theorem dX7_readWalker_123 : decode cX7_readWalker 123 = .ok (.ifCond .eq 21, 3) := dk_153 (dw rcX7_readWalker_98 13 rfl) rfl
theorem dX7_readWalker_126 : decode cX7_readWalker 126 = .ok (.aload_n 0, 1) := dk_42 (dw rcX7_readWalker_98 14 rfl)
theorem dX7_readWalker_127 : decode cX7_readWalker 127 = .ok (.aload_n 0, 1) := dk_42 (dw rcX7_readWalker_98 15 rfl)
theorem dX7_readWalker_128 : decode cX7_readWalker 128 = .ok (.getfield 39, 3) := dk_180 (dw rcX7_readWalker_98 16 rfl) rfl
theorem dX7_readWalker_131 : decode cX7_readWalker 131 = .ok (.getfield 144, 3) := dk_180 (dw rcX7_readWalker_98 17 rfl) rfl
theorem dX7_readWalker_134 : decode cX7_readWalker 134 = .ok (.iload_n 1, 1) := dk_27 (dw rcX7_readWalker_98 18 rfl)
theorem dX7_readWalker_135 : decode cX7_readWalker 135 = .ok (.iaload, 1) := dk_46 (dw rcX7_readWalker_98 19 rfl)
theorem dX7_readWalker_136 : decode cX7_readWalker 136 = .ok (.bipush 60, 2) := dk_16 (dw rcX7_readWalker_98 20 rfl) rfl
theorem dX7_readWalker_138 : decode cX7_readWalker 138 = .ok (.invokevirtual 118, 3) := dk_182 (dw rcX7_readWalker_98 21 rfl) rfl
theorem dX7_readWalker_141 : decode cX7_readWalker 141 = .ok (.ifCond .ne 5, 3) := dk_154 (dw rcX7_readWalker_98 22 rfl) rfl
theorem dX7_readWalker_144 : decode cX7_readWalker 144 = .ok (.iconst 0, 1) := dk_3 (dw rcX7_readWalker_98 23 rfl)
noncomputable def rbX7_readWalker_145 : List (Nat × List Nat) := [(145, [172]), (146, [42]), (147, [180, 0, 39]), (150, [180, 0, 147]), (153, [27]), (154, [42]), (155, [180, 0, 99]), (158, [79]), (159, [42]), (160, [180, 0, 26]), (163, [180, 0, 62]), (166, [17, 0, 133]), (169, [160, 0, 38]), (172, [42]), (173, [180, 0, 26]), (176, [17, 0, 133]), (179, [182, 0, 115]), (182, [153, 0, 23]), (185, [42]), (186, [42]), (187, [180, 0, 39]), (190, [180, 0, 147]), (193, [27]), (194, [46])]
theorem rcX7_readWalker_145 : dgo (lb cX7_readWalker) 0 rbX7_readWalker_145 = true := by decide +kernel
theorem dX7_readWalker_145 : decode cX7_readWalker 145 = .ok (.ireturn, 1) := dk_172 (dw rcX7_readWalker_145 0 rfl)
theorem dX7_readWalker_146 : decode cX7_readWalker 146 = .ok (.aload_n 0, 1) := dk_42 (dw rcX7_readWalker_145 1 rfl)
theorem dX7_readWalker_147 : decode cX7_readWalker 147 = .ok (.getfield 39, 3) := dk_180 (dw rcX7_readWalker_145 2 rfl) rfl
theorem dX7_readWalker_150 : decode cX7_readWalker 150 = .ok (.getfield 147, 3) := dk_180 (dw rcX7_readWalker_145 3 rfl) rfl
theorem dX7_readWalker_153 : decode cX7_readWalker 153 = .ok (.iload_n 1, 1) := dk_27 (dw rcX7_readWalker_145 4 rfl)
theorem dX7_readWalker_154 : decode cX7_readWalker 154 = .ok (.aload_n 0, 1) := dk_42 (dw rcX7_readWalker_145 5 rfl)
theorem dX7_readWalker_155 : decode cX7_readWalker 155 = .ok (.getfield 99, 3) := dk_180 (dw rcX7_readWalker_145 6 rfl) rfl
theorem dX7_readWalker_158 : decode cX7_readWalker 158 = .ok (.iastore, 1) := dk_79 (dw rcX7_readWalker_145 7 rfl)
theorem dX7_readWalker_159 : decode cX7_readWalker 159 = .ok (.aload_n 0, 1) := dk_42 (dw rcX7_readWalker_145 8 rfl)
theorem dX7_readWalker_160 : decode cX7_readWalker 160 = .ok (.getfield 26, 3) := dk_180 (dw rcX7_readWalker_145 9 rfl) rfl
theorem dX7_readWalker_163 : decode cX7_readWalker 163 = .ok (.getfield 62, 3) := dk_180 (dw rcX7_readWalker_145 10 rfl) rfl
theorem dX7_readWalker_166 : decode cX7_readWalker 166 = .ok (.sipush 133, 3) := dk_17 (dw rcX7_readWalker_145 11 rfl) rfl
theorem dX7_readWalker_169 : decode cX7_readWalker 169 = .ok (.if_icmp .ne 38, 3) := dk_160 (dw rcX7_readWalker_145 12 rfl) rfl
theorem dX7_readWalker_172 : decode cX7_readWalker 172 = .ok (.aload_n 0, 1) := dk_42 (dw rcX7_readWalker_145 13 rfl)
theorem dX7_readWalker_173 : decode cX7_readWalker 173 = .ok (.getfield 26, 3) := dk_180 (dw rcX7_readWalker_145 14 rfl) rfl
theorem dX7_readWalker_176 : decode cX7_readWalker 176 = .ok (.sipush 133, 3) := dk_17 (dw rcX7_readWalker_145 15 rfl) rfl
theorem dX7_readWalker_179 : decode cX7_readWalker 179 = .ok (.invokevirtual 115, 3) := dk_182 (dw rcX7_readWalker_145 16 rfl) rfl
theorem dX7_readWalker_182 : decode cX7_readWalker 182 = .ok (.ifCond .eq 23, 3) := dk_153 (dw rcX7_readWalker_145 17 rfl) rfl
theorem dX7_readWalker_185 : decode cX7_readWalker 185 = .ok (.aload_n 0, 1) := dk_42 (dw rcX7_readWalker_145 18 rfl)
theorem dX7_readWalker_186 : decode cX7_readWalker 186 = .ok (.aload_n 0, 1) := dk_42 (dw rcX7_readWalker_145 19 rfl)
theorem dX7_readWalker_187 : decode cX7_readWalker 187 = .ok (.getfield 39, 3) := dk_180 (dw rcX7_readWalker_145 20 rfl) rfl
theorem dX7_readWalker_190 : decode cX7_readWalker 190 = .ok (.getfield 147, 3) := dk_180 (dw rcX7_readWalker_145 21 rfl) rfl
theorem dX7_readWalker_193 : decode cX7_readWalker 193 = .ok (.iload_n 1, 1) := dk_27 (dw rcX7_readWalker_145 22 rfl)
theorem dX7_readWalker_194 : decode cX7_readWalker 194 = .ok (.iaload, 1) := dk_46 (dw rcX7_readWalker_145 23 rfl)
noncomputable def rbX7_readWalker_195 : List (Nat × List Nat) := [(195, [4]), (196, [96]), (197, [16, 99]), (199, [182, 0, 118]), (202, [154, 0, 5]), (205, [3]), (206, [172]), (207, [42]), (208, [180, 0, 39]), (211, [180, 0, 150]), (214, [27]), (215, [42]), (216, [180, 0, 99]), (219, [79]), (220, [42]), (221, [180, 0, 39]), (224, [89]), (225, [180, 0, 138]), (228, [4]), (229, [96]), (230, [181, 0, 138]), (233, [42]), (234, [180, 0, 26]), (237, [16, 59])]
theorem rcX7_readWalker_195 : dgo (lb cX7_readWalker) 0 rbX7_readWalker_195 = true := by decide +kernel
theorem dX7_readWalker_195 : decode cX7_readWalker 195 = .ok (.iconst 1, 1) := dk_4 (dw rcX7_readWalker_195 0 rfl)
theorem dX7_readWalker_196 : decode cX7_readWalker 196 = .ok (.iadd, 1) := dk_96 (dw rcX7_readWalker_195 1 rfl)
theorem dX7_readWalker_197 : decode cX7_readWalker 197 = .ok (.bipush 99, 2) := dk_16 (dw rcX7_readWalker_195 2 rfl) rfl
theorem dX7_readWalker_199 : decode cX7_readWalker 199 = .ok (.invokevirtual 118, 3) := dk_182 (dw rcX7_readWalker_195 3 rfl) rfl
theorem dX7_readWalker_202 : decode cX7_readWalker 202 = .ok (.ifCond .ne 5, 3) := dk_154 (dw rcX7_readWalker_195 4 rfl) rfl
theorem dX7_readWalker_205 : decode cX7_readWalker 205 = .ok (.iconst 0, 1) := dk_3 (dw rcX7_readWalker_195 5 rfl)
theorem dX7_readWalker_206 : decode cX7_readWalker 206 = .ok (.ireturn, 1) := dk_172 (dw rcX7_readWalker_195 6 rfl)
theorem dX7_readWalker_207 : decode cX7_readWalker 207 = .ok (.aload_n 0, 1) := dk_42 (dw rcX7_readWalker_195 7 rfl)
theorem dX7_readWalker_208 : decode cX7_readWalker 208 = .ok (.getfield 39, 3) := dk_180 (dw rcX7_readWalker_195 8 rfl) rfl
theorem dX7_readWalker_211 : decode cX7_readWalker 211 = .ok (.getfield 150, 3) := dk_180 (dw rcX7_readWalker_195 9 rfl) rfl
theorem dX7_readWalker_214 : decode cX7_readWalker 214 = .ok (.iload_n 1, 1) := dk_27 (dw rcX7_readWalker_195 10 rfl)
theorem dX7_readWalker_215 : decode cX7_readWalker 215 = .ok (.aload_n 0, 1) := dk_42 (dw rcX7_readWalker_195 11 rfl)
theorem dX7_readWalker_216 : decode cX7_readWalker 216 = .ok (.getfield 99, 3) := dk_180 (dw rcX7_readWalker_195 12 rfl) rfl
theorem dX7_readWalker_219 : decode cX7_readWalker 219 = .ok (.iastore, 1) := dk_79 (dw rcX7_readWalker_195 13 rfl)
theorem dX7_readWalker_220 : decode cX7_readWalker 220 = .ok (.aload_n 0, 1) := dk_42 (dw rcX7_readWalker_195 14 rfl)
theorem dX7_readWalker_221 : decode cX7_readWalker 221 = .ok (.getfield 39, 3) := dk_180 (dw rcX7_readWalker_195 15 rfl) rfl
theorem dX7_readWalker_224 : decode cX7_readWalker 224 = .ok (.dup, 1) := dk_89 (dw rcX7_readWalker_195 16 rfl)
theorem dX7_readWalker_225 : decode cX7_readWalker 225 = .ok (.getfield 138, 3) := dk_180 (dw rcX7_readWalker_195 17 rfl) rfl
theorem dX7_readWalker_228 : decode cX7_readWalker 228 = .ok (.iconst 1, 1) := dk_4 (dw rcX7_readWalker_195 18 rfl)
theorem dX7_readWalker_229 : decode cX7_readWalker 229 = .ok (.iadd, 1) := dk_96 (dw rcX7_readWalker_195 19 rfl)
theorem dX7_readWalker_230 : decode cX7_readWalker 230 = .ok (.putfield 138, 3) := dk_181 (dw rcX7_readWalker_195 20 rfl) rfl
theorem dX7_readWalker_233 : decode cX7_readWalker 233 = .ok (.aload_n 0, 1) := dk_42 (dw rcX7_readWalker_195 21 rfl)
theorem dX7_readWalker_234 : decode cX7_readWalker 234 = .ok (.getfield 26, 3) := dk_180 (dw rcX7_readWalker_195 22 rfl) rfl
theorem dX7_readWalker_237 : decode cX7_readWalker 237 = .ok (.bipush 59, 2) := dk_16 (dw rcX7_readWalker_195 23 rfl) rfl
noncomputable def rbX7_readWalker_239 : List (Nat × List Nat) := [(239, [182, 0, 115]), (242, [172])]
theorem rcX7_readWalker_239 : dgo (lb cX7_readWalker) 0 rbX7_readWalker_239 = true := by decide +kernel
theorem dX7_readWalker_239 : decode cX7_readWalker 239 = .ok (.invokevirtual 115, 3) := dk_182 (dw rcX7_readWalker_239 0 rfl) rfl
theorem dX7_readWalker_242 : decode cX7_readWalker 242 = .ok (.ireturn, 1) := dk_172 (dw rcX7_readWalker_239 1 rfl)
set_option maxHeartbeats 4000000 in
set_option maxRecDepth 100000 in
theorem k_rSlab_1 (l : Launch) (D : va_G) (k : KT) (A : Nat → Prop) (a : Nat → Nat) (z : SK) (G : GS) (p0 : Int32) (p1 : Int32) (ha_p0 : 0 ≤ p0.toInt ∧ p0.toInt ≤ 1600) (ha_p1 : 0 ≤ p1.toInt ∧ p1.toInt ≤ 9) (hv_5_5 : G.2.2 5 5 = 1) (hs : (G.1 1 9).toInt < 3) : Met l yX7_readSlab (WS yX7_readSlab cX7_readSlab 9 (some .boolean)) ({ frames := 7, cells := 0, slots := 0, locals := 148 }) (va_Pc [.ref (a 5), .int p0, .int p1] (cW D k A a z G)) (va_Qi (fun (r : Int32) (G1 : GS) => P_rSlab_1 p0 p1 G r G1) (fun (G1 : GS) t => Wd D k A a G1 t.heap) A) 0 0 A := by
  refine Met.ofW (cc := cX7_readSlab) (maxL := 9) (ret := (some .boolean)) (by decide) rfl ?_
  intro p e s m args below meth c s₁ B hml hv
  obtain ⟨rfl, hW, hB_G, hK, hZ⟩ := hv
  have hx := B.exec
  have hb := B.bytes
  have hr := B.returns
  have hts := atoms_spec (ws := WS yX7_readSlab cX7_readSlab 9 (some .boolean)) B.pre
  have hgd : ∀ w ∈ gd, w ∈ WS yX7_readSlab cX7_readSlab 9 (some .boolean) := fun w h => List.mem_cons_of_mem _ h
  have hg : ∀ w ∈ gd, w.before _ s = true := fun w h => hts w (hgd w h)
  have hown : s.vm.findClass RX7 = some m.cls := findClass_of_methodNamed B.named
  have hS : va_S A s.heap s.heap [] := va_S.rf
  have hF : Fr [10, 11] [(3, 2), (3, 3), (3, 4), (3, 5), (3, 6), (3, 7), (3, 8), (5, 9)] G G := Fr.rf
  have hl := lv_entry ([.ref (a 5), .int p0, .int p1]) (n := 9) (Nat.le_of_ble_eq_true rfl)
  rw [lg_entry_eq]
  generalize (lg_sl ([.ref (a 5), .int p0, .int p1]) ++ List.replicate (9 - (lg_sl ([.ref (a 5), .int p0, .int p1])).length) Slot.unset).toArray = ls at hl ⊢
  have hl : lv_has ls 9 [(0, .ref (a 5)), (1, .int p0), (2, .int p1)] := hl
  refine lv_iload_n hx hb dX7_readSlab_0 rfl (lv_at hl 1 rfl) ?_
  refine W.cut (σ := Int32) (pcJ := 9) (J := fun y H locs ls => ∃ (G_4 : GS), (0 ≤ y.toInt ∧ y.toInt ≤ 9) ∧ Jn_k_rSlab_1_1 p0 p1 G y G_4 ∧ Wd D k A a G_4 H ∧ Bd G_4 ∧ Fr [10, 11] [(3, 2), (3, 3), (3, 4), (3, 5), (3, 6), (3, 7), (3, 8), (5, 9)] G G_4 ∧ Fr [] [] G G_4 ∧ va_S A s.heap H locs ∧ lv_has ls 9 [(0, .ref (a 5)), (1, .int p0)]) (stJ := fun y => [.int y]) ?_ (fun hJ_5 => ?_)
  · intro y H locs ls hI
    obtain ⟨w_3, hy⟩ : ∃ q, q = y := ⟨_, rfl⟩
    subst hy
    obtain ⟨G_4, f_8, hX_7, hW, hB_G_4, hF, hq_6, hS, hl⟩ := hI
    refine lv_istore_n (lv' := [(3, .int w_3), (0, .ref (a 5)), (1, .int p0)]) hx hb dX7_readSlab_9 rfl hl (lt_b rfl) rfl (fun ls hl => ?_)
    refine lv_sipush (v := 400) hx hb dX7_readSlab_10 (by decide) ?_
    refine lv_aload_n hx hb dX7_readSlab_13 rfl (lv_at hl 1 rfl) ?_
    refine S_getV (n := 1) (C := RX7) (T := TX7) (N := 10) hx hb hg iX7 hown hK hW kd_5 rfl 5 (lt_b rfl) (hg (Cond.fieldLink RX7 39 "SlabWalk$Reader" "paving" "LSlabWalk$Paving;") m317) (fun _ h9 => h9) rfl (((hq_6.r9 5 5 rfl rfl)).trans (hv_5_5)) dX7_readSlab_14 ?_
    refine S_getR (n := 10) (C := RX6) (T := TX6) (N := 17) hx hb hg iX6 hown hK hW kd_1 rfl 0 (lt_b rfl) (hg (Cond.fieldLink RX7 121 "SlabWalk$Paving" "length" "[I") m160) (fun _ h9 => h9) rfl dX7_readSlab_17 ?_
    refine lv_aload_n hx hb dX7_readSlab_20 rfl (lv_at hl 1 rfl) ?_
    refine S_getV (n := 1) (C := RX7) (T := TX7) (N := 10) hx hb hg iX7 hown hK hW kd_5 rfl 5 (lt_b rfl) (hg (Cond.fieldLink RX7 39 "SlabWalk$Reader" "paving" "LSlabWalk$Paving;") m317) (fun _ h9 => h9) rfl (((hq_6.r9 5 5 rfl rfl)).trans (hv_5_5)) dX7_readSlab_21 ?_
    have b_9 : 0 ≤ (G.1 1 9).toInt ∧ (G.1 1 9).toInt ≤ 3 := bd_1_9 hB_G
    refine S_getI (v := (G.1 1 9)) (C := RX6) (T := TX6) (N := 17) hx hb hg iX6 hown hK hW kd_1 rfl 9 (lt_b rfl) (hg (Cond.fieldLink RX7 104 "SlabWalk$Paving" "streets" "I") m188) (fun _ h9 => h9) rfl (hq_6.i9 1 9 rfl rfl) dX7_readSlab_24 ?_
    refine S_iald hx hb hK hW kd_10 (vin ((by first | exact b_9.1 | omega)) ((by first | exact ok_390 hs | omega))) dX7_readSlab_27 (fun y_10 ey_10 => ?_)
    have ty_10 : 0 ≤ y_10.toInt ∧ y_10.toInt ≤ 400 := bv_10 hB_G_4 ey_10
    refine lv_isub hx hb dX7_readSlab_28 ?_
    refine lv_topi (fun y_11 ey_11 => ?_)
    have ty_11 : y_11.toInt = 400 - y_10.toInt := xI_sub rfl rfl ey_11 ((by first | exact ok_401 ty_10.2 | omega)) ((by first | exact ok_402 ty_10.1 | omega))
    refine lv_iload_n hx hb dX7_readSlab_29 rfl (lv_at hl 0 rfl) ?_
    refine lv_isub hx hb dX7_readSlab_30 ?_
    refine lv_topi (fun y_12 ey_12 => ?_)
    have ty_12 : y_12.toInt = y_11.toInt - w_3.toInt := xI_sub rfl rfl ey_12 ((by first | exact ok_403 f_8.2 ty_10.2 ty_11 | omega)) ((by first | exact ok_404 f_8.1 ty_10.1 ty_11 | omega))
    refine lv_istore (lv' := [(4, .int y_12), (3, .int w_3), (0, .ref (a 5)), (1, .int p0)]) hx hb dX7_readSlab_31 hl (lt_b rfl) rfl (fun ls hl => ?_)
    refine lv_aload_n hx hb dX7_readSlab_33 rfl (lv_at hl 2 rfl) ?_
    refine ic_1 hx hb dX7_readSlab_34 ?_
    refine lv_bipush (v := 60) hx hb dX7_readSlab_35 (by decide) ?_
    refine lv_iload hx hb dX7_readSlab_37 (lv_at hl 0 rfl) ?_
    refine va_mmin hx hb (by rw [hml]; exact hl.1.symm) hown (hg (Cond.methodLink RX7 128 Lib.Math.min.name) m803) (hg (Cond.static Lib.Math.min.name) m636) (hg (Cond.initialized "java/lang/Math") m132) (hg (Cond.code Lib.Math.min.name Lib.Math.min.code 2 (some .int)) m637) (Nat.le_of_ble_eq_true rfl) (Nat.le_of_ble_eq_true rfl) (Nat.le_of_ble_eq_true rfl) (Nat.le_of_ble_eq_true rfl) dX7_readSlab_39 ?_
    refine lv_topi (fun y_13 ey_13 => ?_)
    have ty_13 := xI_min (X := 60) (Y := y_12.toInt) rfl rfl ey_13
    have qc_14 : (1 : Int32).toInt = 1 := rfl
    refine S_calli (va_runV (As := [.int 1, .int y_13]) (rest := []) ⟨hx, hb, hml, hown, hts⟩ (k_rIsNum l D k A a z G_4 1 y_13 ) (cwV 2 hts (gd_V hgd m795 m797 m12 m119 m798) rfl rfl rfl hd_X7_isNumber ⟨Nat.le_of_ble_eq_true rfl, Nat.le_of_ble_eq_true rfl⟩) (pre_W hW hB_G_4 hK hZ hS kd_5 rfl) rfl rfl hl.1 rfl (lv_room (Nat.le_of_ble_eq_true rfl)) dX7_readSlab_42 ⟨Nat.le_of_ble_eq_true rfl, Nat.le_of_ble_eq_true rfl⟩) hS (fun r_15 G_16 H locs hpo hW hS => ?_)
    have hX_19 : P_rIsNum 1 y_13 G_4 r_15 G_16 := hpo
    obtain ⟨hB_G_16, hq_17, f_20, hp_18, -⟩ := hpo
    have hF := hF.call9 hq_17 rfl rfl
    refine lv_if_ne (tgt := 50) hx hb dX7_readSlab_45 rfl (fun c_21 => ?_) (fun c_21 => ?_)
    · have c_21 : r_15.toInt ≠ 0 := xI_ne rfl rfl c_21
      refine lv_aload_n hx hb dX7_readSlab_50 rfl (lv_at hl 2 rfl) ?_
      refine S_getI (v := (G_16.1 5 9)) (C := RX7) (T := TX7) (N := 10) hx hb hg iX7 hown hK hW kd_5 rfl 9 (lt_b rfl) (hg (Cond.fieldLink RX7 99 "SlabWalk$Reader" "number" "I") m321) (fun _ h9 => h9) rfl rfl dX7_readSlab_51 ?_
      refine lv_istore (lv' := [(5, .int (G_16.1 5 9)), (4, .int y_12), (3, .int w_3), (0, .ref (a 5)), (1, .int p0)]) hx hb dX7_readSlab_54 hl (lt_b rfl) rfl (fun ls hl => ?_)
      refine ic_0 hx hb dX7_readSlab_56 ?_
      refine lv_istore (lv' := [(6, .int 0), (5, .int (G_16.1 5 9)), (4, .int y_12), (3, .int w_3), (0, .ref (a 5)), (1, .int p0)]) hx hb dX7_readSlab_57 hl (lt_b rfl) rfl (fun ls hl => ?_)
      refine lv_aload_n hx hb dX7_readSlab_59 rfl (lv_at hl 4 rfl) ?_
      refine S_getR (n := 3) (C := RX7) (T := TX7) (N := 10) hx hb hg iX7 hown hK hW kd_5 rfl 0 (lt_b rfl) (hg (Cond.fieldLink RX7 26 "SlabWalk$Reader" "tokens" "LSlabWalk$Tokens;") m311) (fun _ h9 => h9) rfl dX7_readSlab_60 ?_
      refine S_calli (va_runV (As := []) (rest := []) ⟨hx, hb, hml, hown, hts⟩ (k_tAdvance l D k A a z G_16  ) (cwV 0 hts (gd_V hgd m777 m639 m640 m120 m641) rfl rfl rfl hd_X9_advance ⟨Nat.le_of_ble_eq_true rfl, Nat.le_of_ble_eq_true rfl⟩) (pre_W hW hB_G_16 hK hZ hS kd_3 rfl) rfl rfl hl.1 rfl (lv_room (Nat.le_of_ble_eq_true rfl)) dX7_readSlab_63 ⟨Nat.le_of_ble_eq_true rfl, Nat.le_of_ble_eq_true rfl⟩) hS (fun r_22 G_23 H locs hpo hW hS => ?_)
      have hX_26 : P_tAdvance G_16 r_22 G_23 := hpo
      obtain ⟨hB_G_23, hq_24, f_27, -⟩ := hpo
      have hF := hF.call9 hq_24 rfl rfl
      refine lv_pop hx hb dX7_readSlab_66 rfl ?_
      refine ic_0 hx hb dX7_readSlab_67 ?_
      refine lv_istore (lv' := [(7, .int 0), (6, .int 0), (5, .int (G_16.1 5 9)), (4, .int y_12), (3, .int w_3), (0, .ref (a 5)), (1, .int p0)]) hx hb dX7_readSlab_68 hl (lt_b rfl) rfl (fun ls hl => ?_)
      have qc_35 : (0 : Int32).toInt = 0 := rfl
      refine loop_N (Inv := fun n H locs ls => ∃ (G_28 : GS) (x_32 : Int32) (x_33 : Int32), (n : Int) = 5 - x_32.toInt ∧ (0 ≤ x_32.toInt ∧ x_32.toInt ≤ 5) ∧ (0 ≤ x_33.toInt ∧ x_33.toInt ≤ 63) ∧ Rc (St_k_rSlab_1_2) (0, 0, G_23) (x_32, x_33, G_28) ∧ Wd D k A a G_28 H ∧ Bd G_28 ∧ Fr [10, 11] [(3, 2), (3, 3), (3, 4), (3, 5), (3, 6), (3, 7), (3, 8), (5, 9)] G G_28 ∧ Fr [] [(3, 2), (3, 3), (3, 4), (3, 5), (3, 6)] G_23 G_28 ∧ va_S A s.heap H locs ∧ lv_has ls 9 [(7, .int x_32), (6, .int x_33), (5, .int (G_16.1 5 9)), (3, .int w_3), (0, .ref (a 5)), (1, .int p0)]) (fun n_31 H locs ls ih_30 hI => ?_) (5 - 0 : Int).toNat ⟨G_23, 0, 0, (Int.toNat_of_nonneg ((by decide))), ⟨(by decide), (by decide)⟩, ⟨(by decide), (by decide)⟩, Rc.rf, hW, hB_G_23, hF, Fr.rf, hS, lv_sub hl [0, 1, 2, 4, 5, 6] rfl⟩
      obtain ⟨G_28, x_32, x_33, hn_38, f_36, f_37, hX_34, hW, hB_G_28, hF, hq_29, hS, hl⟩ := hI
      refine lv_iload hx hb dX7_readSlab_70 (lv_at hl 0 rfl) ?_
      refine ic_4 hx hb dX7_readSlab_72 ?_
      refine W.cut (σ := Unit) (pcJ := 155) (J := fun y H locs ls => ∃ (G_44 : GS), Jn_k_rSlab_1_3 x_32 G_28 G_44 ∧ Wd D k A a G_44 H ∧ Bd G_44 ∧ Fr [10, 11] [(3, 2), (3, 3), (3, 4), (3, 5), (3, 6), (3, 7), (3, 8), (5, 9)] G G_44 ∧ Fr [] [] G_28 G_44 ∧ va_S A s.heap H locs ∧ lv_has ls 9 [(6, .int x_33), (5, .int (G_16.1 5 9)), (3, .int w_3), (0, .ref (a 5)), (1, .int p0)]) (stJ := fun _ => []) ?_ (fun hJ_45 => ?_)
      · intro y H locs ls hI
        obtain ⟨G_44, hX_47, hW, hB_G_44, hF, hq_46, hS, hl⟩ := hI
        refine lv_iload_n hx hb dX7_readSlab_155 rfl (lv_at hl 4 rfl) ?_
        refine lv_if_le (tgt := 172) hx hb dX7_readSlab_156 rfl (fun c_48 => ?_) (fun c_48 => ?_)
        · have c_48 : p0.toInt ≤ 0 := xI_le rfl rfl c_48
          refine lv_aload_n hx hb dX7_readSlab_172 rfl (lv_at hl 3 rfl) ?_
          refine S_getV (n := 1) (C := RX7) (T := TX7) (N := 10) hx hb hg iX7 hown hK hW kd_5 rfl 5 (lt_b rfl) (hg (Cond.fieldLink RX7 39 "SlabWalk$Reader" "paving" "LSlabWalk$Paving;") m317) (fun _ h9 => h9) rfl ((((hq_46.r9 5 5 rfl rfl).trans ((hq_29.r9 5 5 rfl rfl).trans ((hq_24.r9 5 5 rfl rfl).trans ((hq_17.r9 5 5 rfl rfl).trans (hq_6.r9 5 5 rfl rfl)))))).trans (hv_5_5)) dX7_readSlab_173 ?_
          refine ic_0 hx hb dX7_readSlab_176 ?_
          refine lv_iload hx hb dX7_readSlab_177 (lv_at hl 0 rfl) ?_
          refine lv_iload_n hx hb dX7_readSlab_179 rfl (lv_at hl 4 rfl) ?_
          refine lv_iload hx hb dX7_readSlab_180 (lv_at hl 1 rfl) ?_
          refine S_callv (va_runV (As := [.int 0, .int x_33, .int p0, .int (G_16.1 5 9)]) (rest := []) ⟨hx, hb, hml, hown, hts⟩ (k_lay_1 l D k A a z G_44 0 x_33 p0 (G_16.1 5 9) ⟨(by first | exact ok_405 qc_14 f_20.1 f_20.2 hp_18 c_21 | omega), (by first | exact ok_406 ty_13 f_20.1 f_20.2 hp_18 c_21 | omega)⟩) (cwV 4 hts (gd_V hgd m804 m805 m806 m118 m807) rfl rfl rfl hd_X6_lay ⟨Nat.le_of_ble_eq_true rfl, Nat.le_of_ble_eq_true rfl⟩) (pre_W hW hB_G_44 hK hZ hS kd_1 rfl) rfl rfl hl.1 rfl (lv_room (Nat.le_of_ble_eq_true rfl)) dX7_readSlab_182 ⟨Nat.le_of_ble_eq_true rfl, Nat.le_of_ble_eq_true rfl⟩) hS (fun G_50 H locs hpo hW hS => ?_)
          have hX_53 : P_lay_1 0 x_33 p0 (G_16.1 5 9) G_44 G_50 := hpo
          obtain ⟨hB_G_50, hq_51, -⟩ := hpo
          have hF := hF.call9 hq_51 rfl rfl
          refine ic_1 hx hb dX7_readSlab_185 ?_
          exact W.zret (v := 1) hx hb hr (by decide) (fun t ht _ => ⟨⟨1, G_50, rfl, (P_rSlab_1_mk ⟨hB_G_50, hF, ⟨by decide, by decide⟩, ⟨w_3, G_4, hX_7, f_8, hB_G_4, hq_6, ⟨y_10, ey_10, ⟨y_11, ty_11, ⟨y_12, ty_12, ⟨y_13, ty_13, ⟨r_15, G_16, hX_19, (Or.inr ⟨c_21, ⟨r_22, G_23, hX_26, ⟨x_32, x_33, G_28, hX_34, f_36, f_37, hB_G_28, hq_29, (Or.inr ⟨G_44, hX_47, hB_G_44, hq_46, (Or.inl ⟨c_48, ⟨G_50, hX_53, ⟨rfl, rfl⟩⟩⟩)⟩)⟩⟩⟩)⟩⟩⟩⟩⟩⟩⟩), wd_t ht hW⟩, hS.F ht⟩) hS.2.2 dX7_readSlab_186
        · have c_48 : 0 < p0.toInt := xI_nle rfl rfl c_48
          refine lv_aload_n hx hb dX7_readSlab_159 rfl (lv_at hl 3 rfl) ?_
          refine S_getV (n := 1) (C := RX7) (T := TX7) (N := 10) hx hb hg iX7 hown hK hW kd_5 rfl 5 (lt_b rfl) (hg (Cond.fieldLink RX7 39 "SlabWalk$Reader" "paving" "LSlabWalk$Paving;") m317) (fun _ h9 => h9) rfl ((((hq_46.r9 5 5 rfl rfl).trans ((hq_29.r9 5 5 rfl rfl).trans ((hq_24.r9 5 5 rfl rfl).trans ((hq_17.r9 5 5 rfl rfl).trans (hq_6.r9 5 5 rfl rfl)))))).trans (hv_5_5)) dX7_readSlab_160 ?_
          refine ic_1 hx hb dX7_readSlab_163 ?_
          refine ic_0 hx hb dX7_readSlab_164 ?_
          refine lv_iload_n hx hb dX7_readSlab_165 rfl (lv_at hl 4 rfl) ?_
          refine ic_1 hx hb dX7_readSlab_166 ?_
          refine lv_isub hx hb dX7_readSlab_167 ?_
          refine lv_topi (fun y_54 ey_54 => ?_)
          have ty_54 : y_54.toInt = p0.toInt - 1 := xI_sub rfl rfl ey_54 ((by first | exact ok_137 c_48 | omega)) ((by first | exact ok_407 ha_p0.2 | omega))
          refine lv_iload_n hx hb dX7_readSlab_168 rfl (lv_at hl 2 rfl) ?_
          refine S_callv (va_runV (As := [.int 1, .int 0, .int y_54, .int w_3]) (rest := []) ⟨hx, hb, hml, hown, hts⟩ (k_lay_1 l D k A a z G_44 1 0 y_54 w_3 ⟨(by first | exact f_8.1 | omega), (by first | exact ok_408 f_8.2 | omega)⟩) (cwV 4 hts (gd_V hgd m804 m805 m806 m118 m807) rfl rfl rfl hd_X6_lay ⟨Nat.le_of_ble_eq_true rfl, Nat.le_of_ble_eq_true rfl⟩) (pre_W hW hB_G_44 hK hZ hS kd_1 rfl) rfl rfl hl.1 rfl (lv_room (Nat.le_of_ble_eq_true rfl)) dX7_readSlab_169 ⟨Nat.le_of_ble_eq_true rfl, Nat.le_of_ble_eq_true rfl⟩) hS (fun G_56 H locs hpo hW hS => ?_)
          have hX_59 : P_lay_1 1 0 y_54 w_3 G_44 G_56 := hpo
          obtain ⟨hB_G_56, hq_57, -⟩ := hpo
          have hF := hF.call9 hq_57 rfl rfl
          refine lv_aload_n hx hb dX7_readSlab_172 rfl (lv_at hl 3 rfl) ?_
          refine S_getV (n := 1) (C := RX7) (T := TX7) (N := 10) hx hb hg iX7 hown hK hW kd_5 rfl 5 (lt_b rfl) (hg (Cond.fieldLink RX7 39 "SlabWalk$Reader" "paving" "LSlabWalk$Paving;") m317) (fun _ h9 => h9) rfl ((((hq_57.r9 5 5 rfl rfl).trans ((hq_46.r9 5 5 rfl rfl).trans ((hq_29.r9 5 5 rfl rfl).trans ((hq_24.r9 5 5 rfl rfl).trans ((hq_17.r9 5 5 rfl rfl).trans (hq_6.r9 5 5 rfl rfl))))))).trans (hv_5_5)) dX7_readSlab_173 ?_
          refine ic_0 hx hb dX7_readSlab_176 ?_
          refine lv_iload hx hb dX7_readSlab_177 (lv_at hl 0 rfl) ?_
          refine lv_iload_n hx hb dX7_readSlab_179 rfl (lv_at hl 4 rfl) ?_
          refine lv_iload hx hb dX7_readSlab_180 (lv_at hl 1 rfl) ?_
          refine S_callv (va_runV (As := [.int 0, .int x_33, .int p0, .int (G_16.1 5 9)]) (rest := []) ⟨hx, hb, hml, hown, hts⟩ (k_lay_1 l D k A a z G_56 0 x_33 p0 (G_16.1 5 9) ⟨(by first | exact ok_405 qc_14 f_20.1 f_20.2 hp_18 c_21 | omega), (by first | exact ok_406 ty_13 f_20.1 f_20.2 hp_18 c_21 | omega)⟩) (cwV 4 hts (gd_V hgd m804 m805 m806 m118 m807) rfl rfl rfl hd_X6_lay ⟨Nat.le_of_ble_eq_true rfl, Nat.le_of_ble_eq_true rfl⟩) (pre_W hW hB_G_56 hK hZ hS kd_1 rfl) rfl rfl hl.1 rfl (lv_room (Nat.le_of_ble_eq_true rfl)) dX7_readSlab_182 ⟨Nat.le_of_ble_eq_true rfl, Nat.le_of_ble_eq_true rfl⟩) hS (fun G_61 H locs hpo hW hS => ?_)
          have hX_64 : P_lay_1 0 x_33 p0 (G_16.1 5 9) G_56 G_61 := hpo
          obtain ⟨hB_G_61, hq_62, -⟩ := hpo
          have hF := hF.call9 hq_62 rfl rfl
          refine ic_1 hx hb dX7_readSlab_185 ?_
          exact W.zret (v := 1) hx hb hr (by decide) (fun t ht _ => ⟨⟨1, G_61, rfl, (P_rSlab_1_mk ⟨hB_G_61, hF, ⟨by decide, by decide⟩, ⟨w_3, G_4, hX_7, f_8, hB_G_4, hq_6, ⟨y_10, ey_10, ⟨y_11, ty_11, ⟨y_12, ty_12, ⟨y_13, ty_13, ⟨r_15, G_16, hX_19, (Or.inr ⟨c_21, ⟨r_22, G_23, hX_26, ⟨x_32, x_33, G_28, hX_34, f_36, f_37, hB_G_28, hq_29, (Or.inr ⟨G_44, hX_47, hB_G_44, hq_46, (Or.inr ⟨c_48, ⟨y_54, ty_54, ⟨G_56, hX_59, ⟨G_61, hX_64, ⟨rfl, rfl⟩⟩⟩⟩⟩)⟩)⟩⟩⟩)⟩⟩⟩⟩⟩⟩⟩), wd_t ht hW⟩, hS.F ht⟩) hS.2.2 dX7_readSlab_186
      refine lv_icmp_gt (tgt := 155) hx hb dX7_readSlab_73 rfl (fun c_65 => ?_) (fun c_65 => ?_)
      · have c_65 : 4 < x_32.toInt := xI_lt rfl rfl c_65
        exact hJ_45 () _ _ _ ⟨G_28, (Jn_k_rSlab_1_3_mk (Or.inl ⟨c_65, rfl⟩)), hW, hB_G_28, hF, (Fr.rf (rs := []) (fs := [])), hS, lv_sub hl [1, 2, 3, 4, 5] rfl⟩
      · have c_65 : x_32.toInt ≤ 4 := xI_nlt rfl rfl c_65
        refine lv_aload_n hx hb dX7_readSlab_76 rfl (lv_at hl 4 rfl) ?_
        refine S_getR (n := 3) (C := RX7) (T := TX7) (N := 10) hx hb hg iX7 hown hK hW kd_5 rfl 0 (lt_b rfl) (hg (Cond.fieldLink RX7 26 "SlabWalk$Reader" "tokens" "LSlabWalk$Tokens;") m311) (fun _ h9 => h9) rfl dX7_readSlab_77 ?_
        refine S_getI (v := (G_28.1 3 3)) (C := RX9) (T := TX9) (N := 9) hx hb hg iX9 hown hK hW kd_3 rfl 3 (lt_b rfl) (hg (Cond.fieldLink RX7 62 "SlabWalk$Tokens" "kind" "I") m261) (fun _ h9 => h9) rfl rfl dX7_readSlab_80 ?_
        refine lv_sipush (v := 140) hx hb dX7_readSlab_83 (by decide) ?_
        refine lv_icmp_lt (tgt := 155) hx hb dX7_readSlab_86 rfl (fun c_66 => ?_) (fun c_66 => ?_)
        · have c_66 : (G_28.1 3 3).toInt < 140 := xI_lt rfl rfl c_66
          exact hJ_45 () _ _ _ ⟨G_28, (Jn_k_rSlab_1_3_mk (Or.inr ⟨c_65, (Or.inl ⟨c_66, rfl⟩)⟩)), hW, hB_G_28, hF, (Fr.rf (rs := []) (fs := [])), hS, lv_sub hl [1, 2, 3, 4, 5] rfl⟩
        · have c_66 : 140 ≤ (G_28.1 3 3).toInt := xI_nlt rfl rfl c_66
          refine lv_aload_n hx hb dX7_readSlab_89 rfl (lv_at hl 4 rfl) ?_
          refine S_getR (n := 3) (C := RX7) (T := TX7) (N := 10) hx hb hg iX7 hown hK hW kd_5 rfl 0 (lt_b rfl) (hg (Cond.fieldLink RX7 26 "SlabWalk$Reader" "tokens" "LSlabWalk$Tokens;") m311) (fun _ h9 => h9) rfl dX7_readSlab_90 ?_
          refine S_getI (v := (G_28.1 3 3)) (C := RX9) (T := TX9) (N := 9) hx hb hg iX9 hown hK hW kd_3 rfl 3 (lt_b rfl) (hg (Cond.fieldLink RX7 62 "SlabWalk$Tokens" "kind" "I") m261) (fun _ h9 => h9) rfl rfl dX7_readSlab_93 ?_
          refine lv_sipush (v := 143) hx hb dX7_readSlab_96 (by decide) ?_
          refine lv_icmp_gt (tgt := 155) hx hb dX7_readSlab_99 rfl (fun c_67 => ?_) (fun c_67 => ?_)
          · have c_67 : 143 < (G_28.1 3 3).toInt := xI_lt rfl rfl c_67
            exact hJ_45 () _ _ _ ⟨G_28, (Jn_k_rSlab_1_3_mk (Or.inr ⟨c_65, (Or.inr ⟨c_66, ⟨c_67, rfl⟩⟩)⟩)), hW, hB_G_28, hF, (Fr.rf (rs := []) (fs := [])), hS, lv_sub hl [1, 2, 3, 4, 5] rfl⟩
          · have c_67 : (G_28.1 3 3).toInt ≤ 143 := xI_nlt rfl rfl c_67
            refine ic_1 hx hb dX7_readSlab_102 ?_
            refine lv_aload_n hx hb dX7_readSlab_103 rfl (lv_at hl 4 rfl) ?_
            refine S_getR (n := 3) (C := RX7) (T := TX7) (N := 10) hx hb hg iX7 hown hK hW kd_5 rfl 0 (lt_b rfl) (hg (Cond.fieldLink RX7 26 "SlabWalk$Reader" "tokens" "LSlabWalk$Tokens;") m311) (fun _ h9 => h9) rfl dX7_readSlab_104 ?_
            refine S_getI (v := (G_28.1 3 3)) (C := RX9) (T := TX9) (N := 9) hx hb hg iX9 hown hK hW kd_3 rfl 3 (lt_b rfl) (hg (Cond.fieldLink RX7 62 "SlabWalk$Tokens" "kind" "I") m261) (fun _ h9 => h9) rfl rfl dX7_readSlab_107 ?_
            refine lv_sipush (v := 140) hx hb dX7_readSlab_110 (by decide) ?_
            refine lv_isub hx hb dX7_readSlab_113 ?_
            refine lv_topi (fun y_68 ey_68 => ?_)
            have ty_68 : y_68.toInt = (G_28.1 3 3).toInt - 140 := xI_sub rfl rfl ey_68 ((by first | exact ok_409 c_66 | omega)) ((by first | exact ok_410 c_67 | omega))
            refine lv_ishl hx hb dX7_readSlab_114 ?_
            refine lv_topi (fun y_69 ey_69 => ?_)
            have ty_69 := sh5 (Y := y_68.toInt) rfl ey_69 rfl (by first | (clear ha_p0 ha_p1 hs f_8 b_9 ty_10 ty_11 ty_12 ty_13 f_20 hp_18 c_21 f_27 hn_38 f_36 f_37 c_65; omega) | omega) (by first | (clear ha_p0 ha_p1 hs f_8 b_9 ty_10 ty_11 ty_12 ty_13 f_20 hp_18 c_21 f_27 hn_38 f_36 f_37 c_65; omega) | omega)
            refine lv_istore (lv' := [(8, .int y_69), (7, .int x_32), (6, .int x_33), (5, .int (G_16.1 5 9)), (3, .int w_3), (0, .ref (a 5)), (1, .int p0)]) hx hb dX7_readSlab_115 hl (lt_b rfl) rfl (fun ls hl => ?_)
            refine lv_iload hx hb dX7_readSlab_117 (lv_at hl 2 rfl) ?_
            refine lv_iload hx hb dX7_readSlab_119 (lv_at hl 0 rfl) ?_
            refine lv_iand hx hb dX7_readSlab_121 ?_
            refine lv_topi (fun y_70 ey_70 => ?_)
            refine lv_if_eq (tgt := 134) hx hb dX7_readSlab_122 rfl (fun c_71 => ?_) (fun c_71 => ?_)
            · have c_71 : y_70.toInt = 0 := xI_eq rfl rfl c_71
              refine lv_iload hx hb dX7_readSlab_134 (lv_at hl 2 rfl) ?_
              refine lv_iload hx hb dX7_readSlab_136 (lv_at hl 0 rfl) ?_
              refine lv_ior hx hb dX7_readSlab_138 ?_
              refine lv_topi (fun y_72 ey_72 => ?_)
              have ty_72 := or6 ey_72 ⟨by omega, by omega⟩ ⟨by omega, by omega⟩
              refine lv_istore (lv' := [(6, .int y_72), (8, .int y_69), (7, .int x_32), (5, .int (G_16.1 5 9)), (3, .int w_3), (0, .ref (a 5)), (1, .int p0)]) hx hb dX7_readSlab_139 hl (lt_b rfl) rfl (fun ls hl => ?_)
              refine lv_aload_n hx hb dX7_readSlab_141 rfl (lv_at hl 5 rfl) ?_
              refine S_getR (n := 3) (C := RX7) (T := TX7) (N := 10) hx hb hg iX7 hown hK hW kd_5 rfl 0 (lt_b rfl) (hg (Cond.fieldLink RX7 26 "SlabWalk$Reader" "tokens" "LSlabWalk$Tokens;") m311) (fun _ h9 => h9) rfl dX7_readSlab_142 ?_
              refine S_calli (va_runV (As := []) (rest := []) ⟨hx, hb, hml, hown, hts⟩ (k_tAdvance l D k A a z G_28  ) (cwV 0 hts (gd_V hgd m777 m639 m640 m120 m641) rfl rfl rfl hd_X9_advance ⟨Nat.le_of_ble_eq_true rfl, Nat.le_of_ble_eq_true rfl⟩) (pre_W hW hB_G_28 hK hZ hS kd_3 rfl) rfl rfl hl.1 rfl (lv_room (Nat.le_of_ble_eq_true rfl)) dX7_readSlab_145 ⟨Nat.le_of_ble_eq_true rfl, Nat.le_of_ble_eq_true rfl⟩) hS (fun r_73 G_74 H locs hpo hW hS => ?_)
              have hX_77 : P_tAdvance G_28 r_73 G_74 := hpo
              obtain ⟨hB_G_74, hq_75, f_78, -⟩ := hpo
              have hF := hF.call9 hq_75 rfl rfl
              refine lv_pop hx hb dX7_readSlab_148 rfl ?_
              obtain ⟨y_79, ey_79⟩ : ∃ q, q = x_32 + 1 := ⟨_, rfl⟩
              have ty_79 : y_79.toInt = x_32.toInt + 1 := xI_add rfl rfl ey_79 ((by first | exact ok_21 f_36.1 | omega)) ((by first | exact ok_144 f_36.2 | omega))
              refine lv_iinc (v := y_79) (lv' := [(7, .int y_79), (6, .int y_72), (8, .int y_69), (5, .int (G_16.1 5 9)), (3, .int w_3), (0, .ref (a 5)), (1, .int p0)]) hx hb dX7_readSlab_149 hl (k := 2) rfl (by rw [ey_79]; rfl) (lt_b rfl) rfl (fun ls hl => ?_)
              refine lv_goto (tgt := 70) hx hb dX7_readSlab_152 rfl ?_
              exact ih_30 (5 - y_79.toInt : Int).toNat ((by first | (clear ha_p0 ha_p1 hs f_8 b_9 ty_10 ty_11 ty_12 ty_13 f_20 hp_18 c_21 f_27 f_37 c_66 c_67 ty_68 ty_69 c_71 ty_72 f_78; omega) | omega)) _ _ _ ⟨G_74, y_79, y_72, (Int.toNat_of_nonneg ((by first | exact ok_411 f_36.2 c_65 ty_79 | omega))), ⟨(by first | exact ok_23 f_36.1 ty_79 | omega), (by first | exact ok_412 f_36.2 c_65 ty_79 | omega)⟩, ⟨(by first | exact ty_72.1 | omega), (by first | exact ty_72.2 | omega)⟩, (hX_34.st (St_k_rSlab_1_2_mk ⟨x_32, x_33, G_28, y_79, y_72, G_74, rfl, rfl, f_36, f_37, hB_G_28, ⟨c_65, ⟨c_66, ⟨c_67, ⟨y_68, ty_68, ⟨y_69, ey_69, ⟨y_70, ey_70, ⟨c_71, ⟨y_72, ey_72, ⟨r_73, G_74, hX_77, ⟨y_79, ty_79, ⟨rfl, rfl, rfl⟩⟩⟩⟩⟩⟩⟩⟩⟩⟩⟩⟩)), hW, hB_G_74, hF, (Fr.call9 (rs := []) (fs := [(3, 2), (3, 3), (3, 4), (3, 5), (3, 6)]) (Fr.call9 (rs := []) (fs := [(3, 2), (3, 3), (3, 4), (3, 5), (3, 6)]) Fr.rf hq_29 rfl rfl) hq_75 rfl rfl), hS, lv_sub hl [0, 1, 3, 4, 5, 6] rfl⟩
            · have c_71 : y_70.toInt ≠ 0 := xI_ne rfl rfl c_71
              refine lv_aload_n hx hb dX7_readSlab_125 rfl (lv_at hl 5 rfl) ?_
              refine S_getR (n := 3) (C := RX7) (T := TX7) (N := 10) hx hb hg iX7 hown hK hW kd_5 rfl 0 (lt_b rfl) (hg (Cond.fieldLink RX7 26 "SlabWalk$Reader" "tokens" "LSlabWalk$Tokens;") m311) (fun _ h9 => h9) rfl dX7_readSlab_126 ?_
              refine ic_2 hx hb dX7_readSlab_129 ?_
              refine S_calli (va_runV (As := [.int 2]) (rest := []) ⟨hx, hb, hml, hown, hts⟩ (k_tRefuse l D k A a z G_28 2 ⟨by decide, by decide⟩) (cwV 1 hts (gd_V hgd m778 m779 m780 m120 m781) rfl rfl rfl hd_X9_refuse ⟨Nat.le_of_ble_eq_true rfl, Nat.le_of_ble_eq_true rfl⟩) (pre_W hW hB_G_28 hK hZ hS kd_3 rfl) rfl rfl hl.1 rfl (lv_room (Nat.le_of_ble_eq_true rfl)) dX7_readSlab_130 ⟨Nat.le_of_ble_eq_true rfl, Nat.le_of_ble_eq_true rfl⟩) hS (fun r_80 G_81 H locs hpo hW hS => ?_)
              have hX_84 : P_tRefuse 2 G_28 r_80 G_81 := hpo
              obtain ⟨hB_G_81, hq_82, f_85, -⟩ := hpo
              have hF := hF.call9 hq_82 rfl rfl
              exact W.zret (v := r_80) hx hb hr (nar_z ((by first | exact f_85.1 | omega)) ((by first | exact ok_130 f_85.2 | omega))) (fun t ht _ => ⟨⟨r_80, G_81, rfl, (P_rSlab_1_mk ⟨hB_G_81, hF, ⟨(by first | exact f_85.1 | omega), (by first | exact ok_130 f_85.2 | omega)⟩, ⟨w_3, G_4, hX_7, f_8, hB_G_4, hq_6, ⟨y_10, ey_10, ⟨y_11, ty_11, ⟨y_12, ty_12, ⟨y_13, ty_13, ⟨r_15, G_16, hX_19, (Or.inr ⟨c_21, ⟨r_22, G_23, hX_26, ⟨x_32, x_33, G_28, hX_34, f_36, f_37, hB_G_28, hq_29, (Or.inl ⟨c_65, ⟨c_66, ⟨c_67, ⟨y_68, ty_68, ⟨y_69, ey_69, ⟨y_70, ey_70, ⟨c_71, ⟨r_80, G_81, hX_84, ⟨rfl, rfl⟩⟩⟩⟩⟩⟩⟩⟩⟩)⟩⟩⟩)⟩⟩⟩⟩⟩⟩⟩), wd_t ht hW⟩, hS.F ht⟩) hS.2.2 dX7_readSlab_133
    · have c_21 : r_15.toInt = 0 := xI_eq rfl rfl c_21
      refine ic_0 hx hb dX7_readSlab_48 ?_
      exact W.zret (v := 0) hx hb hr (by decide) (fun t ht _ => ⟨⟨0, G_16, rfl, (P_rSlab_1_mk ⟨hB_G_16, hF, ⟨by decide, by decide⟩, ⟨w_3, G_4, hX_7, f_8, hB_G_4, hq_6, ⟨y_10, ey_10, ⟨y_11, ty_11, ⟨y_12, ty_12, ⟨y_13, ty_13, ⟨r_15, G_16, hX_19, (Or.inl ⟨c_21, ⟨rfl, rfl⟩⟩)⟩⟩⟩⟩⟩⟩⟩), wd_t ht hW⟩, hS.F ht⟩) hS.2.2 dX7_readSlab_49
  refine lv_if_ne (tgt := 8) hx hb dX7_readSlab_1 rfl (fun c_86 => ?_) (fun c_86 => ?_)
  · have c_86 : p0.toInt ≠ 0 := xI_ne rfl rfl c_86
    refine lv_iload_n hx hb dX7_readSlab_8 rfl (lv_at hl 2 rfl) ?_
    exact hJ_5 p1 _ _ _ ⟨G, ⟨(by first | exact ha_p1.1 | omega), (by first | exact ha_p1.2 | omega)⟩, (Jn_k_rSlab_1_1_mk (Or.inr ⟨c_86, ⟨rfl, rfl⟩⟩)), hW, hB_G, hF, (Fr.rf (rs := []) (fs := [])), hS, lv_sub hl [0, 1] rfl⟩
  · have c_86 : p0.toInt = 0 := xI_eq rfl rfl c_86
    refine ic_0 hx hb dX7_readSlab_4 ?_
    refine lv_goto (tgt := 9) hx hb dX7_readSlab_5 rfl ?_
    have qc_87 : (0 : Int32).toInt = 0 := rfl
    exact hJ_5 0 _ _ _ ⟨G, ⟨(by decide), (by decide)⟩, (Jn_k_rSlab_1_1_mk (Or.inl ⟨c_86, ⟨rfl, rfl⟩⟩)), hW, hB_G, hF, (Fr.rf (rs := []) (fs := [])), hS, lv_sub hl [0, 1] rfl⟩

set_option maxHeartbeats 4000000 in
set_option maxRecDepth 100000 in
theorem k_rStreet_1 (l : Launch) (D : va_G) (k : KT) (A : Nat → Prop) (a : Nat → Nat) (z : SK) (G : GS)  (hv_5_5 : G.2.2 5 5 = 1) : Met l yX7_readStreet (WS yX7_readStreet cX7_readStreet 3 (some .boolean)) ({ frames := 8, cells := 0, slots := 0, locals := 176 }) (va_Pc [.ref (a 5)] (cW D k A a z G)) (va_Qi (fun (r : Int32) (G1 : GS) => P_rStreet_1 G r G1) (fun (G1 : GS) t => Wd D k A a G1 t.heap) A) 0 0 A := by
  refine Met.ofW (cc := cX7_readStreet) (maxL := 3) (ret := (some .boolean)) (by decide) rfl ?_
  intro p e s m args below meth c s₁ B hml hv
  obtain ⟨rfl, hW, hB_G, hK, hZ⟩ := hv
  have hx := B.exec
  have hb := B.bytes
  have hr := B.returns
  have hts := atoms_spec (ws := WS yX7_readStreet cX7_readStreet 3 (some .boolean)) B.pre
  have hgd : ∀ w ∈ gd, w ∈ WS yX7_readStreet cX7_readStreet 3 (some .boolean) := fun w h => List.mem_cons_of_mem _ h
  have hg : ∀ w ∈ gd, w.before _ s = true := fun w h => hts w (hgd w h)
  have hown : s.vm.findClass RX7 = some m.cls := findClass_of_methodNamed B.named
  have hS : va_S A s.heap s.heap [] := va_S.rf
  have hF : Fr [10, 11, 34] [(1, 9), (3, 2), (3, 3), (3, 4), (3, 5), (3, 6), (3, 7), (3, 8), (5, 9)] G G := Fr.rf
  have hl := lv_entry ([.ref (a 5)]) (n := 3) (Nat.le_of_ble_eq_true rfl)
  rw [lg_entry_eq]
  generalize (lg_sl ([.ref (a 5)]) ++ List.replicate (3 - (lg_sl ([.ref (a 5)])).length) Slot.unset).toArray = ls at hl ⊢
  have hl : lv_has ls 3 [(0, .ref (a 5))] := hl
  refine lv_aload_n hx hb dX7_readStreet_0 rfl (lv_at hl 0 rfl) ?_
  refine lv_aload_n hx hb dX7_readStreet_1 rfl (lv_at hl 0 rfl) ?_
  refine S_getV (n := 1) (C := RX7) (T := TX7) (N := 10) hx hb hg iX7 hown hK hW kd_5 rfl 5 (lt_b rfl) (hg (Cond.fieldLink RX7 39 "SlabWalk$Reader" "paving" "LSlabWalk$Paving;") m317) (fun _ h9 => h9) rfl hv_5_5 dX7_readStreet_2 ?_
  have b_1 : 0 ≤ (G.1 1 9).toInt ∧ (G.1 1 9).toInt ≤ 3 := bd_1_9 hB_G
  refine S_getI (v := (G.1 1 9)) (C := RX6) (T := TX6) (N := 17) hx hb hg iX6 hown hK hW kd_1 rfl 9 (lt_b rfl) (hg (Cond.fieldLink RX7 104 "SlabWalk$Paving" "streets" "I") m188) (fun _ h9 => h9) rfl rfl dX7_readStreet_5 ?_
  refine ic_3 hx hb dX7_readStreet_8 ?_
  refine W.cut (σ := Int32) (pcJ := 17) (J := fun y H locs ls => ∃ (G_5 : GS), (0 ≤ y.toInt ∧ y.toInt ≤ 1) ∧ (y.toInt = 0 ∨ (G_5.1 1 9).toInt < 3) ∧ Jn_k_rStreet_1_1 G y G_5 ∧ Wd D k A a G_5 H ∧ Bd G_5 ∧ Fr [10, 11, 34] [(1, 9), (3, 2), (3, 3), (3, 4), (3, 5), (3, 6), (3, 7), (3, 8), (5, 9)] G G_5 ∧ Fr [] [] G G_5 ∧ va_S A s.heap H locs ∧ lv_has ls 3 [(0, .ref (a 5))]) (stJ := fun y => [.int y, .ref (a 5)]) ?_ (fun hJ_6 => ?_)
  · intro y H locs ls hI
    obtain ⟨w_3, hy⟩ : ∃ q, q = y := ⟨_, rfl⟩
    subst hy
    obtain ⟨G_5, f_9, f_10, hX_8, hW, hB_G_5, hF, hq_7, hS, hl⟩ := hI
    have g_11 : (G_5.1 1 9).toInt = (G.1 1 9).toInt := (congrArg Int32.toInt (show G_5.1 1 9 = (G.1 1 9) from ((hq_7.i9 1 9 rfl rfl).trans (rfl))))
    refine S_calli (va_runV (As := [.int w_3]) (rest := []) ⟨hx, hb, hml, hown, hts⟩ (k_rFirst l D k A a z G_5 w_3 ⟨(by first | exact f_9.1 | omega), (by first | exact f_9.2 | omega)⟩) (cwV 1 hts (gd_V hgd m773 m775 m9 m119 m776) rfl rfl rfl hd_X7_passFirst ⟨Nat.le_of_ble_eq_true rfl, Nat.le_of_ble_eq_true rfl⟩) (pre_W hW hB_G_5 hK hZ hS kd_5 rfl) rfl rfl hl.1 rfl (lv_room (Nat.le_of_ble_eq_true rfl)) dX7_readStreet_17 ⟨Nat.le_of_ble_eq_true rfl, Nat.le_of_ble_eq_true rfl⟩) hS (fun r_12 G_13 H locs hpo hW hS => ?_)
    have hX_16 : P_rFirst w_3 G_5 r_12 G_13 := hpo
    obtain ⟨hB_G_13, hq_14, f_17, hp_15, -⟩ := hpo
    have hF := hF.call9 hq_14 rfl rfl
    refine lv_if_eq (tgt := 64) hx hb dX7_readStreet_20 rfl (fun c_18 => ?_) (fun c_18 => ?_)
    · have c_18 : r_12.toInt = 0 := xI_eq rfl rfl c_18
      refine ic_0 hx hb dX7_readStreet_64 ?_
      exact W.zret (v := 0) hx hb hr (by decide) (fun t ht _ => ⟨⟨0, G_13, rfl, (P_rStreet_1_mk ⟨hB_G_13, hF, ⟨by decide, by decide⟩, ⟨w_3, G_5, hX_8, f_9, f_10, hB_G_5, hq_7, ⟨r_12, G_13, hX_16, (Or.inl ⟨c_18, ⟨rfl, rfl⟩⟩)⟩⟩⟩), wd_t ht hW⟩, hS.F ht⟩) hS.2.2 dX7_readStreet_65
    · have c_18 : r_12.toInt ≠ 0 := xI_ne rfl rfl c_18
      refine lv_aload_n hx hb dX7_readStreet_23 rfl (lv_at hl 0 rfl) ?_
      refine lv_aload_n hx hb dX7_readStreet_24 rfl (lv_at hl 0 rfl) ?_
      refine S_getR (n := 34) (C := RX7) (T := TX7) (N := 10) hx hb hg iX7 hown hK hW kd_5 rfl 2 (lt_b rfl) (hg (Cond.fieldLink RX7 9 "SlabWalk$Reader" "streetNames" "[J") m314) (fun _ h9 => h9) rfl dX7_readStreet_25 ?_
      refine lv_aload_n hx hb dX7_readStreet_28 rfl (lv_at hl 0 rfl) ?_
      refine S_getV (n := 1) (C := RX7) (T := TX7) (N := 10) hx hb hg iX7 hown hK hW kd_5 rfl 5 (lt_b rfl) (hg (Cond.fieldLink RX7 39 "SlabWalk$Reader" "paving" "LSlabWalk$Paving;") m317) (fun _ h9 => h9) rfl ((((hq_14.r9 5 5 rfl rfl).trans (hq_7.r9 5 5 rfl rfl))).trans (hv_5_5)) dX7_readStreet_29 ?_
      refine S_getI (v := (G.1 1 9)) (C := RX6) (T := TX6) (N := 17) hx hb hg iX6 hown hK hW kd_1 rfl 9 (lt_b rfl) (hg (Cond.fieldLink RX7 104 "SlabWalk$Paving" "streets" "I") m188) (fun _ h9 => h9) rfl ((hq_14.i9 1 9 rfl rfl).trans ((hq_7.i9 1 9 rfl rfl).trans (rfl))) dX7_readStreet_32 ?_
      refine S_calli (va_runV (As := [.ref (a 34), .int (G.1 1 9)]) (rest := []) ⟨hx, hb, hml, hown, hts⟩ (k_rName_34 l D k A a z G_13 (G.1 1 9) ⟨(by first | exact b_1.1 | omega), (by first | exact ok_413 b_1.2 | omega)⟩) (cwV 2 hts (gd_V hgd m782 m784 m10 m119 m785) rfl rfl rfl hd_X7_passName ⟨Nat.le_of_ble_eq_true rfl, Nat.le_of_ble_eq_true rfl⟩) (pre_W hW hB_G_13 hK hZ hS kd_5 rfl) rfl rfl hl.1 rfl (lv_room (Nat.le_of_ble_eq_true rfl)) dX7_readStreet_35 ⟨Nat.le_of_ble_eq_true rfl, Nat.le_of_ble_eq_true rfl⟩) hS (fun r_19 G_20 H locs hpo hW hS => ?_)
      have hX_23 : P_rName_34 (G.1 1 9) G_13 r_19 G_20 := hpo
      obtain ⟨hB_G_20, hq_21, f_24, -⟩ := hpo
      have hF := hF.call9 hq_21 rfl rfl
      refine lv_if_eq (tgt := 64) hx hb dX7_readStreet_38 rfl (fun c_25 => ?_) (fun c_25 => ?_)
      · have c_25 : r_19.toInt = 0 := xI_eq rfl rfl c_25
        refine ic_0 hx hb dX7_readStreet_64 ?_
        exact W.zret (v := 0) hx hb hr (by decide) (fun t ht _ => ⟨⟨0, G_20, rfl, (P_rStreet_1_mk ⟨hB_G_20, hF, ⟨by decide, by decide⟩, ⟨w_3, G_5, hX_8, f_9, f_10, hB_G_5, hq_7, ⟨r_12, G_13, hX_16, (Or.inr ⟨c_18, ⟨r_19, G_20, hX_23, (Or.inl ⟨c_25, ⟨rfl, rfl⟩⟩)⟩⟩)⟩⟩⟩), wd_t ht hW⟩, hS.F ht⟩) hS.2.2 dX7_readStreet_65
      · have c_25 : r_19.toInt ≠ 0 := xI_ne rfl rfl c_25
        refine lv_aload_n hx hb dX7_readStreet_41 rfl (lv_at hl 0 rfl) ?_
        refine S_getR (n := 3) (C := RX7) (T := TX7) (N := 10) hx hb hg iX7 hown hK hW kd_5 rfl 0 (lt_b rfl) (hg (Cond.fieldLink RX7 26 "SlabWalk$Reader" "tokens" "LSlabWalk$Tokens;") m311) (fun _ h9 => h9) rfl dX7_readStreet_42 ?_
        refine lv_sipush (v := 139) hx hb dX7_readStreet_45 (by decide) ?_
        refine S_calli (va_runV (As := [.int 139]) (rest := []) ⟨hx, hb, hml, hown, hts⟩ (k_tPass l D k A a z G_20 139 ) (cwV 1 hts (gd_V hgd m786 m787 m788 m120 m789) rfl rfl rfl hd_X9_pass ⟨Nat.le_of_ble_eq_true rfl, Nat.le_of_ble_eq_true rfl⟩) (pre_W hW hB_G_20 hK hZ hS kd_3 rfl) rfl rfl hl.1 rfl (lv_room (Nat.le_of_ble_eq_true rfl)) dX7_readStreet_48 ⟨Nat.le_of_ble_eq_true rfl, Nat.le_of_ble_eq_true rfl⟩) hS (fun r_26 G_27 H locs hpo hW hS => ?_)
        have hX_30 : P_tPass 139 G_20 r_26 G_27 := hpo
        obtain ⟨hB_G_27, hq_28, f_31, -⟩ := hpo
        have hF := hF.call9 hq_28 rfl rfl
        refine lv_if_eq (tgt := 64) hx hb dX7_readStreet_51 rfl (fun c_32 => ?_) (fun c_32 => ?_)
        · have c_32 : r_26.toInt = 0 := xI_eq rfl rfl c_32
          refine ic_0 hx hb dX7_readStreet_64 ?_
          exact W.zret (v := 0) hx hb hr (by decide) (fun t ht _ => ⟨⟨0, G_27, rfl, (P_rStreet_1_mk ⟨hB_G_27, hF, ⟨by decide, by decide⟩, ⟨w_3, G_5, hX_8, f_9, f_10, hB_G_5, hq_7, ⟨r_12, G_13, hX_16, (Or.inr ⟨c_18, ⟨r_19, G_20, hX_23, (Or.inr ⟨c_25, ⟨r_26, G_27, hX_30, (Or.inl ⟨c_32, ⟨rfl, rfl⟩⟩)⟩⟩)⟩⟩)⟩⟩⟩), wd_t ht hW⟩, hS.F ht⟩) hS.2.2 dX7_readStreet_65
        · have c_32 : r_26.toInt ≠ 0 := xI_ne rfl rfl c_32
          refine lv_aload_n hx hb dX7_readStreet_54 rfl (lv_at hl 0 rfl) ?_
          refine ic_0 hx hb dX7_readStreet_55 ?_
          refine lv_bipush (v := 9) hx hb dX7_readStreet_56 (by decide) ?_
          have qc_33 : (0 : Int32).toInt = 0 := rfl
          have qc_34 : (9 : Int32).toInt = 9 := rfl
          refine S_calli (va_runV (As := [.int 0, .int 9]) (rest := []) ⟨hx, hb, hml, hown, hts⟩ (k_rNum l D k A a z G_27 0 9 ) (cwV 2 hts (gd_V hgd m791 m793 m11 m119 m794) rfl rfl rfl hd_X7_passNumber ⟨Nat.le_of_ble_eq_true rfl, Nat.le_of_ble_eq_true rfl⟩) (pre_W hW hB_G_27 hK hZ hS kd_5 rfl) rfl rfl hl.1 rfl (lv_room (Nat.le_of_ble_eq_true rfl)) dX7_readStreet_58 ⟨Nat.le_of_ble_eq_true rfl, Nat.le_of_ble_eq_true rfl⟩) hS (fun r_35 G_36 H locs hpo hW hS => ?_)
          have hX_39 : P_rNum 0 9 G_27 r_35 G_36 := hpo
          obtain ⟨hB_G_36, hq_37, f_40, hp_38, -⟩ := hpo
          have hF := hF.call9 hq_37 rfl rfl
          refine lv_if_ne (tgt := 66) hx hb dX7_readStreet_61 rfl (fun c_41 => ?_) (fun c_41 => ?_)
          · have c_41 : r_35.toInt ≠ 0 := xI_ne rfl rfl c_41
            refine lv_aload_n hx hb dX7_readStreet_66 rfl (lv_at hl 0 rfl) ?_
            refine S_getI (v := (G_36.1 5 9)) (C := RX7) (T := TX7) (N := 10) hx hb hg iX7 hown hK hW kd_5 rfl 9 (lt_b rfl) (hg (Cond.fieldLink RX7 99 "SlabWalk$Reader" "number" "I") m321) (fun _ h9 => h9) rfl rfl dX7_readStreet_67 ?_
            refine lv_istore_n (lv' := [(1, .int (G_36.1 5 9)), (0, .ref (a 5))]) hx hb dX7_readStreet_70 rfl hl (lt_b rfl) rfl (fun ls hl => ?_)
            refine lv_aload_n hx hb dX7_readStreet_71 rfl (lv_at hl 1 rfl) ?_
            refine S_getV (n := 1) (C := RX7) (T := TX7) (N := 10) hx hb hg iX7 hown hK hW kd_5 rfl 5 (lt_b rfl) (hg (Cond.fieldLink RX7 39 "SlabWalk$Reader" "paving" "LSlabWalk$Paving;") m317) (fun _ h9 => h9) rfl ((((hq_37.r9 5 5 rfl rfl).trans ((hq_28.r9 5 5 rfl rfl).trans ((hq_21.r9 5 5 rfl rfl).trans ((hq_14.r9 5 5 rfl rfl).trans (hq_7.r9 5 5 rfl rfl)))))).trans (hv_5_5)) dX7_readStreet_72 ?_
            refine S_getR (n := 10) (C := RX6) (T := TX6) (N := 17) hx hb hg iX6 hown hK hW kd_1 rfl 0 (lt_b rfl) (hg (Cond.fieldLink RX7 121 "SlabWalk$Paving" "length" "[I") m160) (fun _ h9 => h9) rfl dX7_readStreet_75 ?_
            refine lv_aload_n hx hb dX7_readStreet_78 rfl (lv_at hl 1 rfl) ?_
            refine S_getV (n := 1) (C := RX7) (T := TX7) (N := 10) hx hb hg iX7 hown hK hW kd_5 rfl 5 (lt_b rfl) (hg (Cond.fieldLink RX7 39 "SlabWalk$Reader" "paving" "LSlabWalk$Paving;") m317) (fun _ h9 => h9) rfl ((((hq_37.r9 5 5 rfl rfl).trans ((hq_28.r9 5 5 rfl rfl).trans ((hq_21.r9 5 5 rfl rfl).trans ((hq_14.r9 5 5 rfl rfl).trans (hq_7.r9 5 5 rfl rfl)))))).trans (hv_5_5)) dX7_readStreet_79 ?_
            refine S_getI (v := (G.1 1 9)) (C := RX6) (T := TX6) (N := 17) hx hb hg iX6 hown hK hW kd_1 rfl 9 (lt_b rfl) (hg (Cond.fieldLink RX7 104 "SlabWalk$Paving" "streets" "I") m188) (fun _ h9 => h9) rfl ((hq_37.i9 1 9 rfl rfl).trans ((hq_28.i9 1 9 rfl rfl).trans ((hq_21.i9 1 9 rfl rfl).trans ((hq_14.i9 1 9 rfl rfl).trans ((hq_7.i9 1 9 rfl rfl).trans (rfl)))))) dX7_readStreet_82 ?_
            refine ic_0 hx hb dX7_readStreet_85 ?_
            refine S_iast hx hb hK hW hS kd_10 (vin ((by first | exact b_1.1 | omega)) ((by first | (clear f_17 c_18 f_24 c_25 f_31 c_32 f_40 hp_38 c_41; omega) | omega))) dX7_readStreet_86 (fun G_42 H locs eG_42 hW hS => ?_)
            have hB_G_42 : Bd G_42 := hB_G_36.put (V := 0) (lo := 0) (hi := 400) eG_42 rfl rfl rfl (by decide) (by decide) (hB_G_36.2.put eG_42 rfl)
            have hF := hF.put eG_42 (Or.inl (by decide))
            refine ic_0 hx hb dX7_readStreet_87 ?_
            refine lv_istore_n (lv' := [(2, .int 0), (1, .int (G_36.1 5 9)), (0, .ref (a 5))]) hx hb dX7_readStreet_88 rfl hl (lt_b rfl) rfl (fun ls hl => ?_)
            have g_49 : (G_42.1 1 9).toInt = (G.1 1 9).toInt := (congrArg Int32.toInt (show G_42.1 1 9 = (G.1 1 9) from ((gp_ne eG_42 (fun q => absurd q.1 (Nat.ne_of_beq_eq_false rfl))).trans ((hq_37.i9 1 9 rfl rfl).trans ((hq_28.i9 1 9 rfl rfl).trans ((hq_21.i9 1 9 rfl rfl).trans ((hq_14.i9 1 9 rfl rfl).trans ((hq_7.i9 1 9 rfl rfl).trans (rfl)))))))))
            have qc_50 : (0 : Int32).toInt = 0 := rfl
            refine loop_N (Inv := fun n H locs ls => ∃ (G_43 : GS) (x_47 : Int32), (n : Int) = 1600 - x_47.toInt ∧ (0 ≤ x_47.toInt ∧ x_47.toInt ≤ 1600) ∧ ((G_43.1 1 9).toInt < 3) ∧ Rc (St_k_rStreet_1_2 G_36) (0, G_42) (x_47, G_43) ∧ Wd D k A a G_43 H ∧ Bd G_43 ∧ Fr [10, 11, 34] [(1, 9), (3, 2), (3, 3), (3, 4), (3, 5), (3, 6), (3, 7), (3, 8), (5, 9)] G G_43 ∧ Fr [10, 11] [(3, 2), (3, 3), (3, 4), (3, 5), (3, 6), (3, 7), (3, 8), (5, 9)] G_42 G_43 ∧ va_S A s.heap H locs ∧ lv_has ls 3 [(2, .int x_47), (1, .int (G_36.1 5 9)), (0, .ref (a 5))]) (fun n_46 H locs ls ih_45 hI => ?_) (1600 - 0 : Int).toNat ⟨G_42, 0, (Int.toNat_of_nonneg ((by decide))), ⟨(by decide), (by decide)⟩, ((by first | (clear f_17 c_18 f_24 c_25 f_31 c_32 f_40 hp_38 c_41; omega) | omega)), Rc.rf, hW, hB_G_42, hF, Fr.rf, hS, lv_sub hl [0, 1, 2] rfl⟩
            obtain ⟨G_43, x_47, hn_53, f_51, f_52, hX_48, hW, hB_G_43, hF, hq_44, hS, hl⟩ := hI
            have g_54 : (G_43.1 1 9).toInt = (G.1 1 9).toInt := (congrArg Int32.toInt (show G_43.1 1 9 = (G.1 1 9) from ((hq_44.i9 1 9 rfl rfl).trans ((gp_ne eG_42 (fun q => absurd q.1 (Nat.ne_of_beq_eq_false rfl))).trans ((hq_37.i9 1 9 rfl rfl).trans ((hq_28.i9 1 9 rfl rfl).trans ((hq_21.i9 1 9 rfl rfl).trans ((hq_14.i9 1 9 rfl rfl).trans ((hq_7.i9 1 9 rfl rfl).trans (rfl))))))))))
            refine lv_iload_n hx hb dX7_readStreet_89 rfl (lv_at hl 0 rfl) ?_
            refine lv_sipush (v := 1600) hx hb dX7_readStreet_90 (by decide) ?_
            refine W.cut (σ := Unit) (pcJ := 130) (J := fun y H locs ls => ∃ (G_56 : GS), Jn_k_rStreet_1_3 x_47 G_43 G_56 ∧ Wd D k A a G_56 H ∧ Bd G_56 ∧ Fr [10, 11, 34] [(1, 9), (3, 2), (3, 3), (3, 4), (3, 5), (3, 6), (3, 7), (3, 8), (5, 9)] G G_56 ∧ Fr [] [] G_43 G_56 ∧ va_S A s.heap H locs ∧ lv_has ls 3 [(0, .ref (a 5))]) (stJ := fun _ => []) ?_ (fun hJ_57 => ?_)
            · intro y H locs ls hI
              obtain ⟨G_56, hX_59, hW, hB_G_56, hF, hq_58, hS, hl⟩ := hI
              refine lv_aload_n hx hb dX7_readStreet_130 rfl (lv_at hl 0 rfl) ?_
              refine S_getR (n := 3) (C := RX7) (T := TX7) (N := 10) hx hb hg iX7 hown hK hW kd_5 rfl 0 (lt_b rfl) (hg (Cond.fieldLink RX7 26 "SlabWalk$Reader" "tokens" "LSlabWalk$Tokens;") m311) (fun _ h9 => h9) rfl dX7_readStreet_131 ?_
              refine lv_bipush (v := 59) hx hb dX7_readStreet_134 (by decide) ?_
              refine S_calli (va_runV (As := [.int 59]) (rest := []) ⟨hx, hb, hml, hown, hts⟩ (k_tPass l D k A a z G_56 59 ) (cwV 1 hts (gd_V hgd m786 m787 m788 m120 m789) rfl rfl rfl hd_X9_pass ⟨Nat.le_of_ble_eq_true rfl, Nat.le_of_ble_eq_true rfl⟩) (pre_W hW hB_G_56 hK hZ hS kd_3 rfl) rfl rfl hl.1 rfl (lv_room (Nat.le_of_ble_eq_true rfl)) dX7_readStreet_136 ⟨Nat.le_of_ble_eq_true rfl, Nat.le_of_ble_eq_true rfl⟩) hS (fun r_60 G_61 H locs hpo hW hS => ?_)
              have hX_64 : P_tPass 59 G_56 r_60 G_61 := hpo
              obtain ⟨hB_G_61, hq_62, f_65, -⟩ := hpo
              have hF := hF.call9 hq_62 rfl rfl
              refine lv_if_ne (tgt := 144) hx hb dX7_readStreet_139 rfl (fun c_66 => ?_) (fun c_66 => ?_)
              · have c_66 : r_60.toInt ≠ 0 := xI_ne rfl rfl c_66
                refine lv_aload_n hx hb dX7_readStreet_144 rfl (lv_at hl 0 rfl) ?_
                refine S_getV (n := 1) (C := RX7) (T := TX7) (N := 10) hx hb hg iX7 hown hK hW kd_5 rfl 5 (lt_b rfl) (hg (Cond.fieldLink RX7 39 "SlabWalk$Reader" "paving" "LSlabWalk$Paving;") m317) (fun _ h9 => h9) rfl ((((hq_62.r9 5 5 rfl rfl).trans ((hq_58.r9 5 5 rfl rfl).trans ((hq_44.r9 5 5 rfl rfl).trans ((congrFun (congrFun (congrArg (fun q => q.2.2) eG_42) 5) 5).trans ((hq_37.r9 5 5 rfl rfl).trans ((hq_28.r9 5 5 rfl rfl).trans ((hq_21.r9 5 5 rfl rfl).trans ((hq_14.r9 5 5 rfl rfl).trans (hq_7.r9 5 5 rfl rfl)))))))))).trans (hv_5_5)) dX7_readStreet_145 ?_
                refine lv_dup hx hb dX7_readStreet_148 rfl ?_
                refine S_getI (v := (G.1 1 9)) (C := RX6) (T := TX6) (N := 17) hx hb hg iX6 hown hK hW kd_1 rfl 9 (lt_b rfl) (hg (Cond.fieldLink RX7 104 "SlabWalk$Paving" "streets" "I") m188) (fun _ h9 => h9) rfl ((hq_62.i9 1 9 rfl rfl).trans ((hq_58.i9 1 9 rfl rfl).trans ((hq_44.i9 1 9 rfl rfl).trans ((gp_ne eG_42 (fun q => absurd q.1 (Nat.ne_of_beq_eq_false rfl))).trans ((hq_37.i9 1 9 rfl rfl).trans ((hq_28.i9 1 9 rfl rfl).trans ((hq_21.i9 1 9 rfl rfl).trans ((hq_14.i9 1 9 rfl rfl).trans ((hq_7.i9 1 9 rfl rfl).trans (rfl)))))))))) dX7_readStreet_149 ?_
                refine ic_1 hx hb dX7_readStreet_152 ?_
                refine lv_iadd hx hb dX7_readStreet_153 ?_
                refine lv_topi (fun y_67 ey_67 => ?_)
                have ty_67 : y_67.toInt = (G.1 1 9).toInt + 1 := xI_add rfl rfl ey_67 ((by first | exact ok_21 b_1.1 | omega)) ((by first | exact ok_43 b_1.2 | omega))
                refine S_putI (ty := .int) (C := RX6) (T := TX6) (N := 17) hx hb hg iX6 tyX6 tyX6_ok nmX6 hown hK hW hS kd_1 rfl 9 (lt_b rfl) (hg (Cond.fieldLink RX7 104 "SlabWalk$Paving" "streets" "I") m188) (fun _ h9 => h9) rfl (by decide +kernel) rfl rfl rfl dX7_readStreet_154 (fun G_68 H locs eG_68 hW hS => ?_)
                have hB_G_68 : Bd G_68 := hB_G_61.put (V := y_67.toInt) (lo := 0) (hi := 3) eG_68 rfl rfl rfl ((by first | exact ok_23 b_1.1 ty_67 | omega)) ((by first | exact ok_414 b_1.2 f_52 g_54 ty_67 | omega)) (hB_G_61.2.put eG_68 rfl)
                have hF := hF.put eG_68 (Or.inr (by decide))
                refine ic_1 hx hb dX7_readStreet_157 ?_
                exact W.zret (v := 1) hx hb hr (by decide) (fun t ht _ => ⟨⟨1, G_68, rfl, (P_rStreet_1_mk ⟨hB_G_68, hF, ⟨by decide, by decide⟩, ⟨w_3, G_5, hX_8, f_9, f_10, hB_G_5, hq_7, ⟨r_12, G_13, hX_16, (Or.inr ⟨c_18, ⟨r_19, G_20, hX_23, (Or.inr ⟨c_25, ⟨r_26, G_27, hX_30, (Or.inr ⟨c_32, ⟨r_35, G_36, hX_39, (Or.inr ⟨c_41, ⟨G_42, hB_G_42, (Fr.put (rs := [10]) (fs := []) Fr.rf eG_42 (Or.inl (by decide))), rw_ast eG_42, ⟨x_47, G_43, hX_48, f_51, f_52, hB_G_43, hq_44, (Or.inr ⟨G_56, hX_59, hB_G_56, hq_58, ⟨r_60, G_61, hX_64, (Or.inr ⟨c_66, ⟨y_67, ty_67, ⟨rfl, (Fr.put (rs := []) (fs := [(1, 9)]) Fr.rf eG_68 (Or.inr (by decide))), (gp_eq eG_68)⟩⟩⟩)⟩⟩)⟩⟩⟩)⟩⟩)⟩⟩)⟩⟩)⟩⟩⟩), wd_t ht hW⟩, hS.F ht⟩) hS.2.2 dX7_readStreet_158
              · have c_66 : r_60.toInt = 0 := xI_eq rfl rfl c_66
                refine ic_0 hx hb dX7_readStreet_142 ?_
                exact W.zret (v := 0) hx hb hr (by decide) (fun t ht _ => ⟨⟨0, G_61, rfl, (P_rStreet_1_mk ⟨hB_G_61, hF, ⟨by decide, by decide⟩, ⟨w_3, G_5, hX_8, f_9, f_10, hB_G_5, hq_7, ⟨r_12, G_13, hX_16, (Or.inr ⟨c_18, ⟨r_19, G_20, hX_23, (Or.inr ⟨c_25, ⟨r_26, G_27, hX_30, (Or.inr ⟨c_32, ⟨r_35, G_36, hX_39, (Or.inr ⟨c_41, ⟨G_42, hB_G_42, (Fr.put (rs := [10]) (fs := []) Fr.rf eG_42 (Or.inl (by decide))), rw_ast eG_42, ⟨x_47, G_43, hX_48, f_51, f_52, hB_G_43, hq_44, (Or.inr ⟨G_56, hX_59, hB_G_56, hq_58, ⟨r_60, G_61, hX_64, (Or.inl ⟨c_66, ⟨rfl, rfl⟩⟩)⟩⟩)⟩⟩⟩)⟩⟩)⟩⟩)⟩⟩)⟩⟩⟩), wd_t ht hW⟩, hS.F ht⟩) hS.2.2 dX7_readStreet_143
            refine lv_icmp_ge (tgt := 130) hx hb dX7_readStreet_93 rfl (fun c_69 => ?_) (fun c_69 => ?_)
            · have c_69 : 1600 ≤ x_47.toInt := xI_le rfl rfl c_69
              exact hJ_57 () _ _ _ ⟨G_43, (Jn_k_rStreet_1_3_mk (Or.inl ⟨c_69, rfl⟩)), hW, hB_G_43, hF, (Fr.rf (rs := []) (fs := [])), hS, lv_sub hl [2] rfl⟩
            · have c_69 : x_47.toInt < 1600 := xI_nle rfl rfl c_69
              refine lv_iload_n hx hb dX7_readStreet_96 rfl (lv_at hl 0 rfl) ?_
              refine lv_if_eq (tgt := 113) hx hb dX7_readStreet_97 rfl (fun c_70 => ?_) (fun c_70 => ?_)
              · have c_70 : x_47.toInt = 0 := xI_eq rfl rfl c_70
                refine lv_aload_n hx hb dX7_readStreet_113 rfl (lv_at hl 2 rfl) ?_
                refine lv_iload_n hx hb dX7_readStreet_114 rfl (lv_at hl 0 rfl) ?_
                refine lv_iload_n hx hb dX7_readStreet_115 rfl (lv_at hl 1 rfl) ?_
                have g_71 : (G_43.1 1 9).toInt = (G.1 1 9).toInt := (congrArg Int32.toInt (show G_43.1 1 9 = (G.1 1 9) from ((hq_44.i9 1 9 rfl rfl).trans ((gp_ne eG_42 (fun q => absurd q.1 (Nat.ne_of_beq_eq_false rfl))).trans ((hq_37.i9 1 9 rfl rfl).trans ((hq_28.i9 1 9 rfl rfl).trans ((hq_21.i9 1 9 rfl rfl).trans ((hq_14.i9 1 9 rfl rfl).trans ((hq_7.i9 1 9 rfl rfl).trans (rfl))))))))))
                refine S_calli (va_runV (As := [.int x_47, .int (G_36.1 5 9)]) (rest := []) ⟨hx, hb, hml, hown, hts⟩ (k_rSlab_1 l D k A a z G_43 x_47 (G_36.1 5 9) ⟨(by first | exact f_51.1 | omega), (by first | exact f_51.2 | omega)⟩ ⟨(by first | exact ok_415 qc_33 f_40.1 f_40.2 hp_38 c_41 | omega), (by first | exact ok_416 qc_34 f_40.1 f_40.2 hp_38 c_41 | omega)⟩ ((((hq_44.r9 5 5 rfl rfl).trans ((congrFun (congrFun (congrArg (fun q => q.2.2) eG_42) 5) 5).trans ((hq_37.r9 5 5 rfl rfl).trans ((hq_28.r9 5 5 rfl rfl).trans ((hq_21.r9 5 5 rfl rfl).trans ((hq_14.r9 5 5 rfl rfl).trans (hq_7.r9 5 5 rfl rfl)))))))).trans (hv_5_5)) ((by first | exact f_52 | omega))) (cwV 2 hts (gd_V hgd m799 m801 m13 m119 m802) rfl rfl rfl hd_X7_readSlab ⟨Nat.le_of_ble_eq_true rfl, Nat.le_of_ble_eq_true rfl⟩) (pre_W hW hB_G_43 hK hZ hS kd_5 rfl) rfl rfl hl.1 rfl (lv_room (Nat.le_of_ble_eq_true rfl)) dX7_readStreet_116 ⟨Nat.le_of_ble_eq_true rfl, Nat.le_of_ble_eq_true rfl⟩) hS (fun r_72 G_73 H locs hpo hW hS => ?_)
                have hX_76 : P_rSlab_1 x_47 (G_36.1 5 9) G_43 r_72 G_73 := hpo
                obtain ⟨hB_G_73, hq_74, f_77, -⟩ := hpo
                have hF := hF.call9 hq_74 rfl rfl
                refine lv_if_ne (tgt := 124) hx hb dX7_readStreet_119 rfl (fun c_78 => ?_) (fun c_78 => ?_)
                · have c_78 : r_72.toInt ≠ 0 := xI_ne rfl rfl c_78
                  obtain ⟨y_79, ey_79⟩ : ∃ q, q = x_47 + 1 := ⟨_, rfl⟩
                  have ty_79 : y_79.toInt = x_47.toInt + 1 := xI_add rfl rfl ey_79 ((by first | exact ok_21 f_51.1 | omega)) ((by first | exact ok_417 c_70 | omega))
                  refine lv_iinc (v := y_79) (lv' := [(2, .int y_79), (1, .int (G_36.1 5 9)), (0, .ref (a 5))]) hx hb dX7_readStreet_124 hl (k := 0) rfl (by rw [ey_79]; rfl) (lt_b rfl) rfl (fun ls hl => ?_)
                  refine lv_goto (tgt := 89) hx hb dX7_readStreet_127 rfl ?_
                  have g_80 : (G_73.1 1 9).toInt = (G.1 1 9).toInt := (congrArg Int32.toInt (show G_73.1 1 9 = (G.1 1 9) from ((hq_74.i9 1 9 rfl rfl).trans ((hq_44.i9 1 9 rfl rfl).trans ((gp_ne eG_42 (fun q => absurd q.1 (Nat.ne_of_beq_eq_false rfl))).trans ((hq_37.i9 1 9 rfl rfl).trans ((hq_28.i9 1 9 rfl rfl).trans ((hq_21.i9 1 9 rfl rfl).trans ((hq_14.i9 1 9 rfl rfl).trans ((hq_7.i9 1 9 rfl rfl).trans (rfl)))))))))))
                  exact ih_45 (1600 - y_79.toInt : Int).toNat ((by first | (clear b_1 f_9 f_10 g_11 f_17 hp_15 c_18 f_24 c_25 f_31 c_32 f_40 hp_38 c_41 g_49 f_52 g_54 g_71 f_77 c_78 g_80; omega) | omega)) _ _ _ ⟨G_73, y_79, (Int.toNat_of_nonneg ((by first | exact ok_418 c_70 ty_79 | omega))), ⟨(by first | exact ok_23 f_51.1 ty_79 | omega), (by first | exact ok_419 c_70 ty_79 | omega)⟩, ((by first | exact ok_420 b_1.2 f_52 g_54 g_80 | omega)), (hX_48.st (St_k_rStreet_1_2_mk ⟨x_47, G_43, y_79, G_73, rfl, rfl, f_51, f_52, hB_G_43, ⟨c_69, (Or.inl ⟨c_70, ⟨r_72, G_73, hX_76, ⟨c_78, ⟨y_79, ty_79, ⟨rfl, rfl⟩⟩⟩⟩⟩)⟩⟩)), hW, hB_G_73, hF, (Fr.call9 (rs := [10, 11]) (fs := [(3, 2), (3, 3), (3, 4), (3, 5), (3, 6), (3, 7), (3, 8), (5, 9)]) (Fr.call9 (rs := [10, 11]) (fs := [(3, 2), (3, 3), (3, 4), (3, 5), (3, 6), (3, 7), (3, 8), (5, 9)]) Fr.rf hq_44 rfl rfl) hq_74 rfl rfl), hS, lv_sub hl [0, 1, 2] rfl⟩
                · have c_78 : r_72.toInt = 0 := xI_eq rfl rfl c_78
                  refine ic_0 hx hb dX7_readStreet_122 ?_
                  exact W.zret (v := 0) hx hb hr (by decide) (fun t ht _ => ⟨⟨0, G_73, rfl, (P_rStreet_1_mk ⟨hB_G_73, hF, ⟨by decide, by decide⟩, ⟨w_3, G_5, hX_8, f_9, f_10, hB_G_5, hq_7, ⟨r_12, G_13, hX_16, (Or.inr ⟨c_18, ⟨r_19, G_20, hX_23, (Or.inr ⟨c_25, ⟨r_26, G_27, hX_30, (Or.inr ⟨c_32, ⟨r_35, G_36, hX_39, (Or.inr ⟨c_41, ⟨G_42, hB_G_42, (Fr.put (rs := [10]) (fs := []) Fr.rf eG_42 (Or.inl (by decide))), rw_ast eG_42, ⟨x_47, G_43, hX_48, f_51, f_52, hB_G_43, hq_44, (Or.inl ⟨c_69, (Or.inl ⟨c_70, ⟨r_72, G_73, hX_76, ⟨c_78, ⟨rfl, rfl⟩⟩⟩⟩)⟩)⟩⟩⟩)⟩⟩)⟩⟩)⟩⟩)⟩⟩⟩), wd_t ht hW⟩, hS.F ht⟩) hS.2.2 dX7_readStreet_123
              · have c_70 : x_47.toInt ≠ 0 := xI_ne rfl rfl c_70
                refine lv_aload_n hx hb dX7_readStreet_100 rfl (lv_at hl 2 rfl) ?_
                refine S_getR (n := 3) (C := RX7) (T := TX7) (N := 10) hx hb hg iX7 hown hK hW kd_5 rfl 0 (lt_b rfl) (hg (Cond.fieldLink RX7 26 "SlabWalk$Reader" "tokens" "LSlabWalk$Tokens;") m311) (fun _ h9 => h9) rfl dX7_readStreet_101 ?_
                refine S_getI (v := (G_43.1 3 3)) (C := RX9) (T := TX9) (N := 9) hx hb hg iX9 hown hK hW kd_3 rfl 3 (lt_b rfl) (hg (Cond.fieldLink RX7 62 "SlabWalk$Tokens" "kind" "I") m261) (fun _ h9 => h9) rfl rfl dX7_readStreet_104 ?_
                refine lv_sipush (v := 201) hx hb dX7_readStreet_107 (by decide) ?_
                refine lv_icmp_ne (tgt := 130) hx hb dX7_readStreet_110 rfl (fun c_81 => ?_) (fun c_81 => ?_)
                · have c_81 : (G_43.1 3 3).toInt ≠ 201 := xI_ne rfl rfl c_81
                  exact hJ_57 () _ _ _ ⟨G_43, (Jn_k_rStreet_1_3_mk (Or.inr ⟨c_69, ⟨c_70, ⟨c_81, rfl⟩⟩⟩)), hW, hB_G_43, hF, (Fr.rf (rs := []) (fs := [])), hS, lv_sub hl [2] rfl⟩
                · have c_81 : (G_43.1 3 3).toInt = 201 := xI_eq rfl rfl c_81
                  refine lv_aload_n hx hb dX7_readStreet_113 rfl (lv_at hl 2 rfl) ?_
                  refine lv_iload_n hx hb dX7_readStreet_114 rfl (lv_at hl 0 rfl) ?_
                  refine lv_iload_n hx hb dX7_readStreet_115 rfl (lv_at hl 1 rfl) ?_
                  have g_82 : (G_43.1 1 9).toInt = (G.1 1 9).toInt := (congrArg Int32.toInt (show G_43.1 1 9 = (G.1 1 9) from ((hq_44.i9 1 9 rfl rfl).trans ((gp_ne eG_42 (fun q => absurd q.1 (Nat.ne_of_beq_eq_false rfl))).trans ((hq_37.i9 1 9 rfl rfl).trans ((hq_28.i9 1 9 rfl rfl).trans ((hq_21.i9 1 9 rfl rfl).trans ((hq_14.i9 1 9 rfl rfl).trans ((hq_7.i9 1 9 rfl rfl).trans (rfl))))))))))
                  refine S_calli (va_runV (As := [.int x_47, .int (G_36.1 5 9)]) (rest := []) ⟨hx, hb, hml, hown, hts⟩ (k_rSlab_1 l D k A a z G_43 x_47 (G_36.1 5 9) ⟨(by first | exact f_51.1 | omega), (by first | exact f_51.2 | omega)⟩ ⟨(by first | exact ok_415 qc_33 f_40.1 f_40.2 hp_38 c_41 | omega), (by first | exact ok_416 qc_34 f_40.1 f_40.2 hp_38 c_41 | omega)⟩ ((((hq_44.r9 5 5 rfl rfl).trans ((congrFun (congrFun (congrArg (fun q => q.2.2) eG_42) 5) 5).trans ((hq_37.r9 5 5 rfl rfl).trans ((hq_28.r9 5 5 rfl rfl).trans ((hq_21.r9 5 5 rfl rfl).trans ((hq_14.r9 5 5 rfl rfl).trans (hq_7.r9 5 5 rfl rfl)))))))).trans (hv_5_5)) ((by first | exact f_52 | omega))) (cwV 2 hts (gd_V hgd m799 m801 m13 m119 m802) rfl rfl rfl hd_X7_readSlab ⟨Nat.le_of_ble_eq_true rfl, Nat.le_of_ble_eq_true rfl⟩) (pre_W hW hB_G_43 hK hZ hS kd_5 rfl) rfl rfl hl.1 rfl (lv_room (Nat.le_of_ble_eq_true rfl)) dX7_readStreet_116 ⟨Nat.le_of_ble_eq_true rfl, Nat.le_of_ble_eq_true rfl⟩) hS (fun r_83 G_84 H locs hpo hW hS => ?_)
                  have hX_87 : P_rSlab_1 x_47 (G_36.1 5 9) G_43 r_83 G_84 := hpo
                  obtain ⟨hB_G_84, hq_85, f_88, -⟩ := hpo
                  have hF := hF.call9 hq_85 rfl rfl
                  refine lv_if_ne (tgt := 124) hx hb dX7_readStreet_119 rfl (fun c_89 => ?_) (fun c_89 => ?_)
                  · have c_89 : r_83.toInt ≠ 0 := xI_ne rfl rfl c_89
                    obtain ⟨y_90, ey_90⟩ : ∃ q, q = x_47 + 1 := ⟨_, rfl⟩
                    have ty_90 : y_90.toInt = x_47.toInt + 1 := xI_add rfl rfl ey_90 ((by first | exact ok_21 f_51.1 | omega)) ((by first | exact ok_122 f_51.2 | omega))
                    refine lv_iinc (v := y_90) (lv' := [(2, .int y_90), (1, .int (G_36.1 5 9)), (0, .ref (a 5))]) hx hb dX7_readStreet_124 hl (k := 0) rfl (by rw [ey_90]; rfl) (lt_b rfl) rfl (fun ls hl => ?_)
                    refine lv_goto (tgt := 89) hx hb dX7_readStreet_127 rfl ?_
                    have g_91 : (G_84.1 1 9).toInt = (G.1 1 9).toInt := (congrArg Int32.toInt (show G_84.1 1 9 = (G.1 1 9) from ((hq_85.i9 1 9 rfl rfl).trans ((hq_44.i9 1 9 rfl rfl).trans ((gp_ne eG_42 (fun q => absurd q.1 (Nat.ne_of_beq_eq_false rfl))).trans ((hq_37.i9 1 9 rfl rfl).trans ((hq_28.i9 1 9 rfl rfl).trans ((hq_21.i9 1 9 rfl rfl).trans ((hq_14.i9 1 9 rfl rfl).trans ((hq_7.i9 1 9 rfl rfl).trans (rfl)))))))))))
                    exact ih_45 (1600 - y_90.toInt : Int).toNat ((by first | (clear b_1 f_9 f_10 g_11 f_17 hp_15 c_18 f_24 c_25 f_31 c_32 f_40 hp_38 c_41 g_49 f_52 g_54 c_81 g_82 f_88 c_89 g_91; omega) | omega)) _ _ _ ⟨G_84, y_90, (Int.toNat_of_nonneg ((by first | exact ok_388 f_51.2 c_69 ty_90 | omega))), ⟨(by first | exact ok_23 f_51.1 ty_90 | omega), (by first | exact ok_389 f_51.2 c_69 ty_90 | omega)⟩, ((by first | exact ok_420 b_1.2 f_52 g_54 g_91 | omega)), (hX_48.st (St_k_rStreet_1_2_mk ⟨x_47, G_43, y_90, G_84, rfl, rfl, f_51, f_52, hB_G_43, ⟨c_69, (Or.inr ⟨c_70, ⟨c_81, ⟨r_83, G_84, hX_87, ⟨c_89, ⟨y_90, ty_90, ⟨rfl, rfl⟩⟩⟩⟩⟩⟩)⟩⟩)), hW, hB_G_84, hF, (Fr.call9 (rs := [10, 11]) (fs := [(3, 2), (3, 3), (3, 4), (3, 5), (3, 6), (3, 7), (3, 8), (5, 9)]) (Fr.call9 (rs := [10, 11]) (fs := [(3, 2), (3, 3), (3, 4), (3, 5), (3, 6), (3, 7), (3, 8), (5, 9)]) Fr.rf hq_44 rfl rfl) hq_85 rfl rfl), hS, lv_sub hl [0, 1, 2] rfl⟩
                  · have c_89 : r_83.toInt = 0 := xI_eq rfl rfl c_89
                    refine ic_0 hx hb dX7_readStreet_122 ?_
                    exact W.zret (v := 0) hx hb hr (by decide) (fun t ht _ => ⟨⟨0, G_84, rfl, (P_rStreet_1_mk ⟨hB_G_84, hF, ⟨by decide, by decide⟩, ⟨w_3, G_5, hX_8, f_9, f_10, hB_G_5, hq_7, ⟨r_12, G_13, hX_16, (Or.inr ⟨c_18, ⟨r_19, G_20, hX_23, (Or.inr ⟨c_25, ⟨r_26, G_27, hX_30, (Or.inr ⟨c_32, ⟨r_35, G_36, hX_39, (Or.inr ⟨c_41, ⟨G_42, hB_G_42, (Fr.put (rs := [10]) (fs := []) Fr.rf eG_42 (Or.inl (by decide))), rw_ast eG_42, ⟨x_47, G_43, hX_48, f_51, f_52, hB_G_43, hq_44, (Or.inl ⟨c_69, (Or.inr ⟨c_70, ⟨c_81, ⟨r_83, G_84, hX_87, ⟨c_89, ⟨rfl, rfl⟩⟩⟩⟩⟩)⟩)⟩⟩⟩)⟩⟩)⟩⟩)⟩⟩)⟩⟩⟩), wd_t ht hW⟩, hS.F ht⟩) hS.2.2 dX7_readStreet_123
          · have c_41 : r_35.toInt = 0 := xI_eq rfl rfl c_41
            refine ic_0 hx hb dX7_readStreet_64 ?_
            exact W.zret (v := 0) hx hb hr (by decide) (fun t ht _ => ⟨⟨0, G_36, rfl, (P_rStreet_1_mk ⟨hB_G_36, hF, ⟨by decide, by decide⟩, ⟨w_3, G_5, hX_8, f_9, f_10, hB_G_5, hq_7, ⟨r_12, G_13, hX_16, (Or.inr ⟨c_18, ⟨r_19, G_20, hX_23, (Or.inr ⟨c_25, ⟨r_26, G_27, hX_30, (Or.inr ⟨c_32, ⟨r_35, G_36, hX_39, (Or.inl ⟨c_41, ⟨rfl, rfl⟩⟩)⟩⟩)⟩⟩)⟩⟩)⟩⟩⟩), wd_t ht hW⟩, hS.F ht⟩) hS.2.2 dX7_readStreet_65
  refine lv_icmp_ge (tgt := 16) hx hb dX7_readStreet_9 rfl (fun c_92 => ?_) (fun c_92 => ?_)
  · have c_92 : 3 ≤ (G.1 1 9).toInt := xI_le rfl rfl c_92
    refine ic_0 hx hb dX7_readStreet_16 ?_
    have qc_93 : (0 : Int32).toInt = 0 := rfl
    exact hJ_6 0 _ _ _ ⟨G, ⟨(by decide), (by decide)⟩, ((by first | exact ok_421 | omega)), (Jn_k_rStreet_1_1_mk (Or.inl ⟨c_92, ⟨rfl, rfl⟩⟩)), hW, hB_G, hF, (Fr.rf (rs := []) (fs := [])), hS, lv_sub hl [0] rfl⟩
  · have c_92 : (G.1 1 9).toInt < 3 := xI_nle rfl rfl c_92
    refine ic_1 hx hb dX7_readStreet_12 ?_
    refine lv_goto (tgt := 17) hx hb dX7_readStreet_13 rfl ?_
    have qc_94 : (1 : Int32).toInt = 1 := rfl
    exact hJ_6 1 _ _ _ ⟨G, ⟨(by decide), (by decide)⟩, ((by first | exact ok_422 b_1.2 c_92 | omega)), (Jn_k_rStreet_1_1_mk (Or.inr ⟨c_92, ⟨rfl, rfl⟩⟩)), hW, hB_G, hF, (Fr.rf (rs := []) (fs := [])), hS, lv_sub hl [0] rfl⟩

set_option maxHeartbeats 4000000 in
set_option maxRecDepth 100000 in
theorem k_rWalker_1 (l : Launch) (D : va_G) (k : KT) (A : Nat → Prop) (a : Nat → Nat) (z : SK) (G : GS)  (hv_5_5 : G.2.2 5 5 = 1) : Met l yX7_readWalker (WS yX7_readWalker cX7_readWalker 2 (some .boolean)) ({ frames := 8, cells := 0, slots := 0, locals := 171 }) (va_Pc [.ref (a 5)] (cW D k A a z G)) (va_Qi (fun (r : Int32) (G1 : GS) => P_rWalker_1 G r G1) (fun (G1 : GS) t => Wd D k A a G1 t.heap) A) 0 0 A := by
  refine Met.ofW (cc := cX7_readWalker) (maxL := 2) (ret := (some .boolean)) (by decide) rfl ?_
  intro p e s m args below meth c s₁ B hml hv
  obtain ⟨rfl, hW, hB_G, hK, hZ⟩ := hv
  have hx := B.exec
  have hb := B.bytes
  have hr := B.returns
  have hts := atoms_spec (ws := WS yX7_readWalker cX7_readWalker 2 (some .boolean)) B.pre
  have hgd : ∀ w ∈ gd, w ∈ WS yX7_readWalker cX7_readWalker 2 (some .boolean) := fun w h => List.mem_cons_of_mem _ h
  have hg : ∀ w ∈ gd, w.before _ s = true := fun w h => hts w (hgd w h)
  have hown : s.vm.findClass RX7 = some m.cls := findClass_of_methodNamed B.named
  have hS : va_S A s.heap s.heap [] := va_S.rf
  have hF : Fr [12, 13, 14, 15, 35] [(1, 10), (3, 2), (3, 3), (3, 4), (3, 5), (3, 6), (3, 7), (3, 8), (5, 9)] G G := Fr.rf
  have hl := lv_entry ([.ref (a 5)]) (n := 2) (Nat.le_of_ble_eq_true rfl)
  rw [lg_entry_eq]
  generalize (lg_sl ([.ref (a 5)]) ++ List.replicate (2 - (lg_sl ([.ref (a 5)])).length) Slot.unset).toArray = ls at hl ⊢
  have hl : lv_has ls 2 [(0, .ref (a 5))] := hl
  refine lv_aload_n hx hb dX7_readWalker_0 rfl (lv_at hl 0 rfl) ?_
  refine S_getV (n := 1) (C := RX7) (T := TX7) (N := 10) hx hb hg iX7 hown hK hW kd_5 rfl 5 (lt_b rfl) (hg (Cond.fieldLink RX7 39 "SlabWalk$Reader" "paving" "LSlabWalk$Paving;") m317) (fun _ h9 => h9) rfl hv_5_5 dX7_readWalker_1 ?_
  have b_1 : 0 ≤ (G.1 1 10).toInt ∧ (G.1 1 10).toInt ≤ 4 := bd_1_10 hB_G
  refine S_getI (v := (G.1 1 10)) (C := RX6) (T := TX6) (N := 17) hx hb hg iX6 hown hK hW kd_1 rfl 10 (lt_b rfl) (hg (Cond.fieldLink RX7 138 "SlabWalk$Paving" "walkers" "I") m190) (fun _ h9 => h9) rfl rfl dX7_readWalker_4 ?_
  refine lv_istore_n (lv' := [(1, .int (G.1 1 10)), (0, .ref (a 5))]) hx hb dX7_readWalker_7 rfl hl (lt_b rfl) rfl (fun ls hl => ?_)
  refine lv_aload_n hx hb dX7_readWalker_8 rfl (lv_at hl 1 rfl) ?_
  refine lv_iload_n hx hb dX7_readWalker_9 rfl (lv_at hl 0 rfl) ?_
  refine ic_4 hx hb dX7_readWalker_10 ?_
  refine W.cut (σ := Int32) (pcJ := 19) (J := fun y H locs ls => ∃ (G_6 : GS), (0 ≤ y.toInt ∧ y.toInt ≤ 1) ∧ (y.toInt = 0 ∨ (G.1 1 10).toInt < 4) ∧ Jn_k_rWalker_1_1 G y G_6 ∧ Wd D k A a G_6 H ∧ Bd G_6 ∧ Fr [12, 13, 14, 15, 35] [(1, 10), (3, 2), (3, 3), (3, 4), (3, 5), (3, 6), (3, 7), (3, 8), (5, 9)] G G_6 ∧ Fr [] [] G G_6 ∧ va_S A s.heap H locs ∧ lv_has ls 2 [(1, .int (G.1 1 10)), (0, .ref (a 5))]) (stJ := fun y => [.int y, .ref (a 5)]) ?_ (fun hJ_7 => ?_)
  · intro y H locs ls hI
    obtain ⟨w_4, hy⟩ : ∃ q, q = y := ⟨_, rfl⟩
    subst hy
    obtain ⟨G_6, f_10, f_11, hX_9, hW, hB_G_6, hF, hq_8, hS, hl⟩ := hI
    refine S_calli (va_runV (As := [.int w_4]) (rest := []) ⟨hx, hb, hml, hown, hts⟩ (k_rFirst l D k A a z G_6 w_4 ⟨(by first | exact f_10.1 | omega), (by first | exact f_10.2 | omega)⟩) (cwV 1 hts (gd_V hgd m773 m775 m9 m119 m776) rfl rfl rfl hd_X7_passFirst ⟨Nat.le_of_ble_eq_true rfl, Nat.le_of_ble_eq_true rfl⟩) (pre_W hW hB_G_6 hK hZ hS kd_5 rfl) rfl rfl hl.1 rfl (lv_room (Nat.le_of_ble_eq_true rfl)) dX7_readWalker_19 ⟨Nat.le_of_ble_eq_true rfl, Nat.le_of_ble_eq_true rfl⟩) hS (fun r_12 G_13 H locs hpo hW hS => ?_)
    have hX_16 : P_rFirst w_4 G_6 r_12 G_13 := hpo
    obtain ⟨hB_G_13, hq_14, f_17, hp_15, -⟩ := hpo
    have hF := hF.call9 hq_14 rfl rfl
    refine lv_if_eq (tgt := 60) hx hb dX7_readWalker_22 rfl (fun c_18 => ?_) (fun c_18 => ?_)
    · have c_18 : r_12.toInt = 0 := xI_eq rfl rfl c_18
      refine ic_0 hx hb dX7_readWalker_60 ?_
      exact W.zret (v := 0) hx hb hr (by decide) (fun t ht _ => ⟨⟨0, G_13, rfl, (P_rWalker_1_mk ⟨hB_G_13, hF, ⟨by decide, by decide⟩, ⟨w_4, G_6, hX_9, f_10, f_11, hB_G_6, hq_8, ⟨r_12, G_13, hX_16, (Or.inl ⟨c_18, ⟨rfl, rfl⟩⟩)⟩⟩⟩), wd_t ht hW⟩, hS.F ht⟩) hS.2.2 dX7_readWalker_61
    · have c_18 : r_12.toInt ≠ 0 := xI_ne rfl rfl c_18
      refine lv_aload_n hx hb dX7_readWalker_25 rfl (lv_at hl 1 rfl) ?_
      refine lv_aload_n hx hb dX7_readWalker_26 rfl (lv_at hl 1 rfl) ?_
      refine S_getR (n := 35) (C := RX7) (T := TX7) (N := 10) hx hb hg iX7 hown hK hW kd_5 rfl 3 (lt_b rfl) (hg (Cond.fieldLink RX7 15 "SlabWalk$Reader" "walkerNames" "[J") m315) (fun _ h9 => h9) rfl dX7_readWalker_27 ?_
      refine lv_iload_n hx hb dX7_readWalker_30 rfl (lv_at hl 0 rfl) ?_
      refine S_calli (va_runV (As := [.ref (a 35), .int (G.1 1 10)]) (rest := []) ⟨hx, hb, hml, hown, hts⟩ (k_rName_35 l D k A a z G_13 (G.1 1 10) ⟨(by first | exact b_1.1 | omega), (by first | exact ok_423 b_1.2 | omega)⟩) (cwV 2 hts (gd_V hgd m782 m784 m10 m119 m785) rfl rfl rfl hd_X7_passName ⟨Nat.le_of_ble_eq_true rfl, Nat.le_of_ble_eq_true rfl⟩) (pre_W hW hB_G_13 hK hZ hS kd_5 rfl) rfl rfl hl.1 rfl (lv_room (Nat.le_of_ble_eq_true rfl)) dX7_readWalker_31 ⟨Nat.le_of_ble_eq_true rfl, Nat.le_of_ble_eq_true rfl⟩) hS (fun r_19 G_20 H locs hpo hW hS => ?_)
      have hX_23 : P_rName_35 (G.1 1 10) G_13 r_19 G_20 := hpo
      obtain ⟨hB_G_20, hq_21, f_24, -⟩ := hpo
      have hF := hF.call9 hq_21 rfl rfl
      refine lv_if_eq (tgt := 60) hx hb dX7_readWalker_34 rfl (fun c_25 => ?_) (fun c_25 => ?_)
      · have c_25 : r_19.toInt = 0 := xI_eq rfl rfl c_25
        refine ic_0 hx hb dX7_readWalker_60 ?_
        exact W.zret (v := 0) hx hb hr (by decide) (fun t ht _ => ⟨⟨0, G_20, rfl, (P_rWalker_1_mk ⟨hB_G_20, hF, ⟨by decide, by decide⟩, ⟨w_4, G_6, hX_9, f_10, f_11, hB_G_6, hq_8, ⟨r_12, G_13, hX_16, (Or.inr ⟨c_18, ⟨r_19, G_20, hX_23, (Or.inl ⟨c_25, ⟨rfl, rfl⟩⟩)⟩⟩)⟩⟩⟩), wd_t ht hW⟩, hS.F ht⟩) hS.2.2 dX7_readWalker_61
      · have c_25 : r_19.toInt ≠ 0 := xI_ne rfl rfl c_25
        refine lv_aload_n hx hb dX7_readWalker_37 rfl (lv_at hl 1 rfl) ?_
        refine S_getR (n := 3) (C := RX7) (T := TX7) (N := 10) hx hb hg iX7 hown hK hW kd_5 rfl 0 (lt_b rfl) (hg (Cond.fieldLink RX7 26 "SlabWalk$Reader" "tokens" "LSlabWalk$Tokens;") m311) (fun _ h9 => h9) rfl dX7_readWalker_38 ?_
        refine lv_sipush (v := 130) hx hb dX7_readWalker_41 (by decide) ?_
        refine S_calli (va_runV (As := [.int 130]) (rest := []) ⟨hx, hb, hml, hown, hts⟩ (k_tPass l D k A a z G_20 130 ) (cwV 1 hts (gd_V hgd m786 m787 m788 m120 m789) rfl rfl rfl hd_X9_pass ⟨Nat.le_of_ble_eq_true rfl, Nat.le_of_ble_eq_true rfl⟩) (pre_W hW hB_G_20 hK hZ hS kd_3 rfl) rfl rfl hl.1 rfl (lv_room (Nat.le_of_ble_eq_true rfl)) dX7_readWalker_44 ⟨Nat.le_of_ble_eq_true rfl, Nat.le_of_ble_eq_true rfl⟩) hS (fun r_26 G_27 H locs hpo hW hS => ?_)
        have hX_30 : P_tPass 130 G_20 r_26 G_27 := hpo
        obtain ⟨hB_G_27, hq_28, f_31, -⟩ := hpo
        have hF := hF.call9 hq_28 rfl rfl
        refine lv_if_eq (tgt := 60) hx hb dX7_readWalker_47 rfl (fun c_32 => ?_) (fun c_32 => ?_)
        · have c_32 : r_26.toInt = 0 := xI_eq rfl rfl c_32
          refine ic_0 hx hb dX7_readWalker_60 ?_
          exact W.zret (v := 0) hx hb hr (by decide) (fun t ht _ => ⟨⟨0, G_27, rfl, (P_rWalker_1_mk ⟨hB_G_27, hF, ⟨by decide, by decide⟩, ⟨w_4, G_6, hX_9, f_10, f_11, hB_G_6, hq_8, ⟨r_12, G_13, hX_16, (Or.inr ⟨c_18, ⟨r_19, G_20, hX_23, (Or.inr ⟨c_25, ⟨r_26, G_27, hX_30, (Or.inl ⟨c_32, ⟨rfl, rfl⟩⟩)⟩⟩)⟩⟩)⟩⟩⟩), wd_t ht hW⟩, hS.F ht⟩) hS.2.2 dX7_readWalker_61
        · have c_32 : r_26.toInt ≠ 0 := xI_ne rfl rfl c_32
          refine lv_aload_n hx hb dX7_readWalker_50 rfl (lv_at hl 1 rfl) ?_
          refine ic_1 hx hb dX7_readWalker_51 ?_
          refine lv_bipush (v := 12) hx hb dX7_readWalker_52 (by decide) ?_
          have qc_33 : (1 : Int32).toInt = 1 := rfl
          have qc_34 : (12 : Int32).toInt = 12 := rfl
          refine S_calli (va_runV (As := [.int 1, .int 12]) (rest := []) ⟨hx, hb, hml, hown, hts⟩ (k_rNum l D k A a z G_27 1 12 ) (cwV 2 hts (gd_V hgd m791 m793 m11 m119 m794) rfl rfl rfl hd_X7_passNumber ⟨Nat.le_of_ble_eq_true rfl, Nat.le_of_ble_eq_true rfl⟩) (pre_W hW hB_G_27 hK hZ hS kd_5 rfl) rfl rfl hl.1 rfl (lv_room (Nat.le_of_ble_eq_true rfl)) dX7_readWalker_54 ⟨Nat.le_of_ble_eq_true rfl, Nat.le_of_ble_eq_true rfl⟩) hS (fun r_35 G_36 H locs hpo hW hS => ?_)
          have hX_39 : P_rNum 1 12 G_27 r_35 G_36 := hpo
          obtain ⟨hB_G_36, hq_37, f_40, hp_38, -⟩ := hpo
          have hF := hF.call9 hq_37 rfl rfl
          refine lv_if_ne (tgt := 62) hx hb dX7_readWalker_57 rfl (fun c_41 => ?_) (fun c_41 => ?_)
          · have c_41 : r_35.toInt ≠ 0 := xI_ne rfl rfl c_41
            refine lv_aload_n hx hb dX7_readWalker_62 rfl (lv_at hl 1 rfl) ?_
            refine S_getV (n := 1) (C := RX7) (T := TX7) (N := 10) hx hb hg iX7 hown hK hW kd_5 rfl 5 (lt_b rfl) (hg (Cond.fieldLink RX7 39 "SlabWalk$Reader" "paving" "LSlabWalk$Paving;") m317) (fun _ h9 => h9) rfl ((((hq_37.r9 5 5 rfl rfl).trans ((hq_28.r9 5 5 rfl rfl).trans ((hq_21.r9 5 5 rfl rfl).trans ((hq_14.r9 5 5 rfl rfl).trans (hq_8.r9 5 5 rfl rfl)))))).trans (hv_5_5)) dX7_readWalker_63 ?_
            refine S_getR (n := 12) (C := RX6) (T := TX6) (N := 17) hx hb hg iX6 hown hK hW kd_1 rfl 2 (lt_b rfl) (hg (Cond.fieldLink RX7 141 "SlabWalk$Paving" "foot" "[I") m165) (fun _ h9 => h9) rfl dX7_readWalker_66 ?_
            refine lv_iload_n hx hb dX7_readWalker_69 rfl (lv_at hl 0 rfl) ?_
            refine lv_aload_n hx hb dX7_readWalker_70 rfl (lv_at hl 1 rfl) ?_
            refine S_getI (v := (G_36.1 5 9)) (C := RX7) (T := TX7) (N := 10) hx hb hg iX7 hown hK hW kd_5 rfl 9 (lt_b rfl) (hg (Cond.fieldLink RX7 99 "SlabWalk$Reader" "number" "I") m321) (fun _ h9 => h9) rfl rfl dX7_readWalker_71 ?_
            refine S_iast hx hb hK hW hS kd_12 (vin ((by first | exact b_1.1 | omega)) ((by first | (clear f_17 c_18 f_24 c_25 f_31 c_32 f_40 hp_38 c_41; omega) | omega))) dX7_readWalker_74 (fun G_42 H locs eG_42 hW hS => ?_)
            have hB_G_42 : Bd G_42 := hB_G_36.put (V := (G_36.1 5 9).toInt) (lo := 0) (hi := 12) eG_42 rfl rfl rfl ((by first | exact ok_405 qc_33 f_40.1 f_40.2 hp_38 c_41 | omega)) ((by first | exact ok_424 qc_34 f_40.1 f_40.2 hp_38 c_41 | omega)) (hB_G_36.2.out (P := 1) eG_42 (by decide) (by decide) (by rw [show G_36.1 1 10 = (G.1 1 10) from ((hq_37.i9 1 10 rfl rfl).trans ((hq_28.i9 1 10 rfl rfl).trans ((hq_21.i9 1 10 rfl rfl).trans ((hq_14.i9 1 10 rfl rfl).trans ((hq_8.i9 1 10 rfl rfl).trans (rfl)))))), tN (by first | (clear f_17 c_18 f_24 c_25 f_31 c_32; omega) | omega)]; omega))
            have hF := hF.put eG_42 (Or.inl (by decide))
            refine lv_aload_n hx hb dX7_readWalker_75 rfl (lv_at hl 1 rfl) ?_
            refine S_getR (n := 3) (C := RX7) (T := TX7) (N := 10) hx hb hg iX7 hown hK hW kd_5 rfl 0 (lt_b rfl) (hg (Cond.fieldLink RX7 26 "SlabWalk$Reader" "tokens" "LSlabWalk$Tokens;") m311) (fun _ h9 => h9) rfl dX7_readWalker_76 ?_
            refine lv_sipush (v := 131) hx hb dX7_readWalker_79 (by decide) ?_
            refine S_calli (va_runV (As := [.int 131]) (rest := []) ⟨hx, hb, hml, hown, hts⟩ (k_tPass l D k A a z G_42 131 ) (cwV 1 hts (gd_V hgd m786 m787 m788 m120 m789) rfl rfl rfl hd_X9_pass ⟨Nat.le_of_ble_eq_true rfl, Nat.le_of_ble_eq_true rfl⟩) (pre_W hW hB_G_42 hK hZ hS kd_3 rfl) rfl rfl hl.1 rfl (lv_room (Nat.le_of_ble_eq_true rfl)) dX7_readWalker_82 ⟨Nat.le_of_ble_eq_true rfl, Nat.le_of_ble_eq_true rfl⟩) hS (fun r_43 G_44 H locs hpo hW hS => ?_)
            have hX_47 : P_tPass 131 G_42 r_43 G_44 := hpo
            obtain ⟨hB_G_44, hq_45, f_48, -⟩ := hpo
            have hF := hF.call9 hq_45 rfl rfl
            refine lv_if_eq (tgt := 98) hx hb dX7_readWalker_85 rfl (fun c_49 => ?_) (fun c_49 => ?_)
            · have c_49 : r_43.toInt = 0 := xI_eq rfl rfl c_49
              refine ic_0 hx hb dX7_readWalker_98 ?_
              exact W.zret (v := 0) hx hb hr (by decide) (fun t ht _ => ⟨⟨0, G_44, rfl, (P_rWalker_1_mk ⟨hB_G_44, hF, ⟨by decide, by decide⟩, ⟨w_4, G_6, hX_9, f_10, f_11, hB_G_6, hq_8, ⟨r_12, G_13, hX_16, (Or.inr ⟨c_18, ⟨r_19, G_20, hX_23, (Or.inr ⟨c_25, ⟨r_26, G_27, hX_30, (Or.inr ⟨c_32, ⟨r_35, G_36, hX_39, (Or.inr ⟨c_41, ⟨G_42, hB_G_42, (Fr.put (rs := [12]) (fs := []) Fr.rf eG_42 (Or.inl (by decide))), rw_ast eG_42, ⟨r_43, G_44, hX_47, (Or.inl ⟨c_49, ⟨rfl, rfl⟩⟩)⟩⟩⟩)⟩⟩)⟩⟩)⟩⟩)⟩⟩⟩), wd_t ht hW⟩, hS.F ht⟩) hS.2.2 dX7_readWalker_99
            · have c_49 : r_43.toInt ≠ 0 := xI_ne rfl rfl c_49
              refine lv_aload_n hx hb dX7_readWalker_88 rfl (lv_at hl 1 rfl) ?_
              refine ic_1 hx hb dX7_readWalker_89 ?_
              refine lv_bipush (v := 60) hx hb dX7_readWalker_90 (by decide) ?_
              have qc_50 : (1 : Int32).toInt = 1 := rfl
              have qc_51 : (60 : Int32).toInt = 60 := rfl
              refine S_calli (va_runV (As := [.int 1, .int 60]) (rest := []) ⟨hx, hb, hml, hown, hts⟩ (k_rNum l D k A a z G_44 1 60 ) (cwV 2 hts (gd_V hgd m791 m793 m11 m119 m794) rfl rfl rfl hd_X7_passNumber ⟨Nat.le_of_ble_eq_true rfl, Nat.le_of_ble_eq_true rfl⟩) (pre_W hW hB_G_44 hK hZ hS kd_5 rfl) rfl rfl hl.1 rfl (lv_room (Nat.le_of_ble_eq_true rfl)) dX7_readWalker_92 ⟨Nat.le_of_ble_eq_true rfl, Nat.le_of_ble_eq_true rfl⟩) hS (fun r_52 G_53 H locs hpo hW hS => ?_)
              have hX_56 : P_rNum 1 60 G_44 r_52 G_53 := hpo
              obtain ⟨hB_G_53, hq_54, f_57, hp_55, -⟩ := hpo
              have hF := hF.call9 hq_54 rfl rfl
              refine lv_if_ne (tgt := 100) hx hb dX7_readWalker_95 rfl (fun c_58 => ?_) (fun c_58 => ?_)
              · have c_58 : r_52.toInt ≠ 0 := xI_ne rfl rfl c_58
                refine lv_aload_n hx hb dX7_readWalker_100 rfl (lv_at hl 1 rfl) ?_
                refine S_getV (n := 1) (C := RX7) (T := TX7) (N := 10) hx hb hg iX7 hown hK hW kd_5 rfl 5 (lt_b rfl) (hg (Cond.fieldLink RX7 39 "SlabWalk$Reader" "paving" "LSlabWalk$Paving;") m317) (fun _ h9 => h9) rfl ((((hq_54.r9 5 5 rfl rfl).trans ((hq_45.r9 5 5 rfl rfl).trans ((congrFun (congrFun (congrArg (fun q => q.2.2) eG_42) 5) 5).trans ((hq_37.r9 5 5 rfl rfl).trans ((hq_28.r9 5 5 rfl rfl).trans ((hq_21.r9 5 5 rfl rfl).trans ((hq_14.r9 5 5 rfl rfl).trans (hq_8.r9 5 5 rfl rfl))))))))).trans (hv_5_5)) dX7_readWalker_101 ?_
                refine S_getR (n := 13) (C := RX6) (T := TX6) (N := 17) hx hb hg iX6 hown hK hW kd_1 rfl 3 (lt_b rfl) (hg (Cond.fieldLink RX7 144 "SlabWalk$Paving" "least" "[I") m168) (fun _ h9 => h9) rfl dX7_readWalker_104 ?_
                refine lv_iload_n hx hb dX7_readWalker_107 rfl (lv_at hl 0 rfl) ?_
                refine lv_aload_n hx hb dX7_readWalker_108 rfl (lv_at hl 1 rfl) ?_
                refine S_getI (v := (G_53.1 5 9)) (C := RX7) (T := TX7) (N := 10) hx hb hg iX7 hown hK hW kd_5 rfl 9 (lt_b rfl) (hg (Cond.fieldLink RX7 99 "SlabWalk$Reader" "number" "I") m321) (fun _ h9 => h9) rfl rfl dX7_readWalker_109 ?_
                refine S_iast hx hb hK hW hS kd_13 (vin ((by first | exact b_1.1 | omega)) ((by first | (clear f_17 c_18 f_24 c_25 f_31 c_32 f_40 hp_38 c_41 f_48 c_49 f_57 hp_55 c_58; omega) | omega))) dX7_readWalker_112 (fun G_59 H locs eG_59 hW hS => ?_)
                have hB_G_59 : Bd G_59 := hB_G_53.put (V := (G_53.1 5 9).toInt) (lo := 0) (hi := 60) eG_59 rfl rfl rfl ((by first | exact ok_405 qc_33 f_57.1 f_57.2 hp_55 c_58 | omega)) ((by first | exact ok_425 qc_51 f_57.1 f_57.2 hp_55 c_58 | omega)) (hB_G_53.2.out (P := 1) eG_59 (by decide) (by decide) (by rw [show G_53.1 1 10 = (G.1 1 10) from ((hq_54.i9 1 10 rfl rfl).trans ((hq_45.i9 1 10 rfl rfl).trans ((gp_ne eG_42 (fun q => absurd q.1 (Nat.ne_of_beq_eq_false rfl))).trans ((hq_37.i9 1 10 rfl rfl).trans ((hq_28.i9 1 10 rfl rfl).trans ((hq_21.i9 1 10 rfl rfl).trans ((hq_14.i9 1 10 rfl rfl).trans ((hq_8.i9 1 10 rfl rfl).trans (rfl))))))))), tN (by first | (clear f_17 c_18 f_24 c_25 f_31 c_32 f_48 c_49; omega) | omega)]; omega))
                have hF := hF.put eG_59 (Or.inl (by decide))
                refine lv_aload_n hx hb dX7_readWalker_113 rfl (lv_at hl 1 rfl) ?_
                refine S_getR (n := 3) (C := RX7) (T := TX7) (N := 10) hx hb hg iX7 hown hK hW kd_5 rfl 0 (lt_b rfl) (hg (Cond.fieldLink RX7 26 "SlabWalk$Reader" "tokens" "LSlabWalk$Tokens;") m311) (fun _ h9 => h9) rfl dX7_readWalker_114 ?_
                refine lv_sipush (v := 132) hx hb dX7_readWalker_117 (by decide) ?_
                refine S_calli (va_runV (As := [.int 132]) (rest := []) ⟨hx, hb, hml, hown, hts⟩ (k_tPass l D k A a z G_59 132 ) (cwV 1 hts (gd_V hgd m786 m787 m788 m120 m789) rfl rfl rfl hd_X9_pass ⟨Nat.le_of_ble_eq_true rfl, Nat.le_of_ble_eq_true rfl⟩) (pre_W hW hB_G_59 hK hZ hS kd_3 rfl) rfl rfl hl.1 rfl (lv_room (Nat.le_of_ble_eq_true rfl)) dX7_readWalker_120 ⟨Nat.le_of_ble_eq_true rfl, Nat.le_of_ble_eq_true rfl⟩) hS (fun r_60 G_61 H locs hpo hW hS => ?_)
                have hX_64 : P_tPass 132 G_59 r_60 G_61 := hpo
                obtain ⟨hB_G_61, hq_62, f_65, -⟩ := hpo
                have hF := hF.call9 hq_62 rfl rfl
                refine lv_if_eq (tgt := 144) hx hb dX7_readWalker_123 rfl (fun c_66 => ?_) (fun c_66 => ?_)
                · have c_66 : r_60.toInt = 0 := xI_eq rfl rfl c_66
                  refine ic_0 hx hb dX7_readWalker_144 ?_
                  exact W.zret (v := 0) hx hb hr (by decide) (fun t ht _ => ⟨⟨0, G_61, rfl, (P_rWalker_1_mk ⟨hB_G_61, hF, ⟨by decide, by decide⟩, ⟨w_4, G_6, hX_9, f_10, f_11, hB_G_6, hq_8, ⟨r_12, G_13, hX_16, (Or.inr ⟨c_18, ⟨r_19, G_20, hX_23, (Or.inr ⟨c_25, ⟨r_26, G_27, hX_30, (Or.inr ⟨c_32, ⟨r_35, G_36, hX_39, (Or.inr ⟨c_41, ⟨G_42, hB_G_42, (Fr.put (rs := [12]) (fs := []) Fr.rf eG_42 (Or.inl (by decide))), rw_ast eG_42, ⟨r_43, G_44, hX_47, (Or.inr ⟨c_49, ⟨r_52, G_53, hX_56, (Or.inr ⟨c_58, ⟨G_59, hB_G_59, (Fr.put (rs := [13]) (fs := []) Fr.rf eG_59 (Or.inl (by decide))), rw_ast eG_59, ⟨r_60, G_61, hX_64, (Or.inl ⟨c_66, ⟨rfl, rfl⟩⟩)⟩⟩⟩)⟩⟩)⟩⟩⟩)⟩⟩)⟩⟩)⟩⟩)⟩⟩⟩), wd_t ht hW⟩, hS.F ht⟩) hS.2.2 dX7_readWalker_145
                · have c_66 : r_60.toInt ≠ 0 := xI_ne rfl rfl c_66
                  refine lv_aload_n hx hb dX7_readWalker_126 rfl (lv_at hl 1 rfl) ?_
                  refine lv_aload_n hx hb dX7_readWalker_127 rfl (lv_at hl 1 rfl) ?_
                  refine S_getV (n := 1) (C := RX7) (T := TX7) (N := 10) hx hb hg iX7 hown hK hW kd_5 rfl 5 (lt_b rfl) (hg (Cond.fieldLink RX7 39 "SlabWalk$Reader" "paving" "LSlabWalk$Paving;") m317) (fun _ h9 => h9) rfl ((((hq_62.r9 5 5 rfl rfl).trans ((congrFun (congrFun (congrArg (fun q => q.2.2) eG_59) 5) 5).trans ((hq_54.r9 5 5 rfl rfl).trans ((hq_45.r9 5 5 rfl rfl).trans ((congrFun (congrFun (congrArg (fun q => q.2.2) eG_42) 5) 5).trans ((hq_37.r9 5 5 rfl rfl).trans ((hq_28.r9 5 5 rfl rfl).trans ((hq_21.r9 5 5 rfl rfl).trans ((hq_14.r9 5 5 rfl rfl).trans (hq_8.r9 5 5 rfl rfl))))))))))).trans (hv_5_5)) dX7_readWalker_128 ?_
                  refine S_getR (n := 13) (C := RX6) (T := TX6) (N := 17) hx hb hg iX6 hown hK hW kd_1 rfl 3 (lt_b rfl) (hg (Cond.fieldLink RX7 144 "SlabWalk$Paving" "least" "[I") m168) (fun _ h9 => h9) rfl dX7_readWalker_131 ?_
                  refine lv_iload_n hx hb dX7_readWalker_134 rfl (lv_at hl 0 rfl) ?_
                  refine S_iald hx hb hK hW kd_13 (vin ((by first | exact b_1.1 | omega)) ((by first | (clear f_17 c_18 f_24 c_25 f_31 c_32 f_40 hp_38 c_41 f_48 c_49 f_57 hp_55 c_58 f_65 c_66; omega) | omega))) dX7_readWalker_135 (fun y_67 ey_67 => ?_)
                  have ty_67 : 0 ≤ y_67.toInt ∧ y_67.toInt ≤ 60 := bv_13 hB_G_61 ey_67
                  refine lv_bipush (v := 60) hx hb dX7_readWalker_136 (by decide) ?_
                  have qc_68 : (60 : Int32).toInt = 60 := rfl
                  refine S_calli (va_runV (As := [.int y_67, .int 60]) (rest := []) ⟨hx, hb, hml, hown, hts⟩ (k_rNum l D k A a z G_61 y_67 60 ) (cwV 2 hts (gd_V hgd m791 m793 m11 m119 m794) rfl rfl rfl hd_X7_passNumber ⟨Nat.le_of_ble_eq_true rfl, Nat.le_of_ble_eq_true rfl⟩) (pre_W hW hB_G_61 hK hZ hS kd_5 rfl) rfl rfl hl.1 rfl (lv_room (Nat.le_of_ble_eq_true rfl)) dX7_readWalker_138 ⟨Nat.le_of_ble_eq_true rfl, Nat.le_of_ble_eq_true rfl⟩) hS (fun r_69 G_70 H locs hpo hW hS => ?_)
                  have hX_73 : P_rNum y_67 60 G_61 r_69 G_70 := hpo
                  obtain ⟨hB_G_70, hq_71, f_74, hp_72, -⟩ := hpo
                  have hF := hF.call9 hq_71 rfl rfl
                  refine lv_if_ne (tgt := 146) hx hb dX7_readWalker_141 rfl (fun c_75 => ?_) (fun c_75 => ?_)
                  · have c_75 : r_69.toInt ≠ 0 := xI_ne rfl rfl c_75
                    refine lv_aload_n hx hb dX7_readWalker_146 rfl (lv_at hl 1 rfl) ?_
                    refine S_getV (n := 1) (C := RX7) (T := TX7) (N := 10) hx hb hg iX7 hown hK hW kd_5 rfl 5 (lt_b rfl) (hg (Cond.fieldLink RX7 39 "SlabWalk$Reader" "paving" "LSlabWalk$Paving;") m317) (fun _ h9 => h9) rfl ((((hq_71.r9 5 5 rfl rfl).trans ((hq_62.r9 5 5 rfl rfl).trans ((congrFun (congrFun (congrArg (fun q => q.2.2) eG_59) 5) 5).trans ((hq_54.r9 5 5 rfl rfl).trans ((hq_45.r9 5 5 rfl rfl).trans ((congrFun (congrFun (congrArg (fun q => q.2.2) eG_42) 5) 5).trans ((hq_37.r9 5 5 rfl rfl).trans ((hq_28.r9 5 5 rfl rfl).trans ((hq_21.r9 5 5 rfl rfl).trans ((hq_14.r9 5 5 rfl rfl).trans (hq_8.r9 5 5 rfl rfl)))))))))))).trans (hv_5_5)) dX7_readWalker_147 ?_
                    refine S_getR (n := 14) (C := RX6) (T := TX6) (N := 17) hx hb hg iX6 hown hK hW kd_1 rfl 4 (lt_b rfl) (hg (Cond.fieldLink RX7 147 "SlabWalk$Paving" "most" "[I") m172) (fun _ h9 => h9) rfl dX7_readWalker_150 ?_
                    refine lv_iload_n hx hb dX7_readWalker_153 rfl (lv_at hl 0 rfl) ?_
                    refine lv_aload_n hx hb dX7_readWalker_154 rfl (lv_at hl 1 rfl) ?_
                    refine S_getI (v := (G_70.1 5 9)) (C := RX7) (T := TX7) (N := 10) hx hb hg iX7 hown hK hW kd_5 rfl 9 (lt_b rfl) (hg (Cond.fieldLink RX7 99 "SlabWalk$Reader" "number" "I") m321) (fun _ h9 => h9) rfl rfl dX7_readWalker_155 ?_
                    refine S_iast hx hb hK hW hS kd_14 (vin ((by first | exact b_1.1 | omega)) ((by first | (clear f_17 c_18 f_24 c_25 f_31 c_32 f_40 hp_38 c_41 f_48 c_49 f_57 hp_55 c_58 f_65 c_66 ty_67 f_74 hp_72 c_75; omega) | omega))) dX7_readWalker_158 (fun G_76 H locs eG_76 hW hS => ?_)
                    have hB_G_76 : Bd G_76 := hB_G_70.put (V := (G_70.1 5 9).toInt) (lo := 0) (hi := 60) eG_76 rfl rfl rfl ((by first | exact ok_426 ty_67.1 f_74.1 f_74.2 hp_72 c_75 | omega)) ((by first | exact ok_425 qc_51 f_74.1 f_74.2 hp_72 c_75 | omega)) (hB_G_70.2.out (P := 1) eG_76 (by decide) (by decide) (by rw [show G_70.1 1 10 = (G.1 1 10) from ((hq_71.i9 1 10 rfl rfl).trans ((hq_62.i9 1 10 rfl rfl).trans ((gp_ne eG_59 (fun q => absurd q.1 (Nat.ne_of_beq_eq_false rfl))).trans ((hq_54.i9 1 10 rfl rfl).trans ((hq_45.i9 1 10 rfl rfl).trans ((gp_ne eG_42 (fun q => absurd q.1 (Nat.ne_of_beq_eq_false rfl))).trans ((hq_37.i9 1 10 rfl rfl).trans ((hq_28.i9 1 10 rfl rfl).trans ((hq_21.i9 1 10 rfl rfl).trans ((hq_14.i9 1 10 rfl rfl).trans ((hq_8.i9 1 10 rfl rfl).trans (rfl)))))))))))), tN (by first | (clear f_17 c_18 f_24 c_25 f_31 c_32 f_48 c_49 f_65 c_66; omega) | omega)]; omega))
                    have hF := hF.put eG_76 (Or.inl (by decide))
                    refine lv_aload_n hx hb dX7_readWalker_159 rfl (lv_at hl 1 rfl) ?_
                    refine S_getR (n := 3) (C := RX7) (T := TX7) (N := 10) hx hb hg iX7 hown hK hW kd_5 rfl 0 (lt_b rfl) (hg (Cond.fieldLink RX7 26 "SlabWalk$Reader" "tokens" "LSlabWalk$Tokens;") m311) (fun _ h9 => h9) rfl dX7_readWalker_160 ?_
                    refine S_getI (v := (G_70.1 3 3)) (C := RX9) (T := TX9) (N := 9) hx hb hg iX9 hown hK hW kd_3 rfl 3 (lt_b rfl) (hg (Cond.fieldLink RX7 62 "SlabWalk$Tokens" "kind" "I") m261) (fun _ h9 => h9) rfl (gp_ne eG_76 (fun q => absurd q.1 (Nat.ne_of_beq_eq_false rfl))) dX7_readWalker_163 ?_
                    refine lv_sipush (v := 133) hx hb dX7_readWalker_166 (by decide) ?_
                    refine W.cut (σ := Unit) (pcJ := 207) (J := fun y H locs ls => ∃ (G_79 : GS), (0 ≤ (G_79.1 5 9).toInt ∧ (G_79.1 5 9).toInt ≤ 99) ∧ Jn_k_rWalker_1_2 G G_70 G_76 G_79 ∧ Wd D k A a G_79 H ∧ Bd G_79 ∧ Fr [12, 13, 14, 15, 35] [(1, 10), (3, 2), (3, 3), (3, 4), (3, 5), (3, 6), (3, 7), (3, 8), (5, 9)] G G_79 ∧ Fr [] [(3, 2), (3, 3), (3, 4), (3, 5), (3, 6), (3, 7), (3, 8), (5, 9)] G_76 G_79 ∧ va_S A s.heap H locs ∧ lv_has ls 2 [(1, .int (G.1 1 10)), (0, .ref (a 5))]) (stJ := fun _ => []) ?_ (fun hJ_80 => ?_)
                    · intro y H locs ls hI
                      obtain ⟨G_79, f_83, hX_82, hW, hB_G_79, hF, hq_81, hS, hl⟩ := hI
                      refine lv_aload_n hx hb dX7_readWalker_207 rfl (lv_at hl 1 rfl) ?_
                      refine S_getV (n := 1) (C := RX7) (T := TX7) (N := 10) hx hb hg iX7 hown hK hW kd_5 rfl 5 (lt_b rfl) (hg (Cond.fieldLink RX7 39 "SlabWalk$Reader" "paving" "LSlabWalk$Paving;") m317) (fun _ h9 => h9) rfl ((((hq_81.r9 5 5 rfl rfl).trans ((congrFun (congrFun (congrArg (fun q => q.2.2) eG_76) 5) 5).trans ((hq_71.r9 5 5 rfl rfl).trans ((hq_62.r9 5 5 rfl rfl).trans ((congrFun (congrFun (congrArg (fun q => q.2.2) eG_59) 5) 5).trans ((hq_54.r9 5 5 rfl rfl).trans ((hq_45.r9 5 5 rfl rfl).trans ((congrFun (congrFun (congrArg (fun q => q.2.2) eG_42) 5) 5).trans ((hq_37.r9 5 5 rfl rfl).trans ((hq_28.r9 5 5 rfl rfl).trans ((hq_21.r9 5 5 rfl rfl).trans ((hq_14.r9 5 5 rfl rfl).trans (hq_8.r9 5 5 rfl rfl)))))))))))))).trans (hv_5_5)) dX7_readWalker_208 ?_
                      refine S_getR (n := 15) (C := RX6) (T := TX6) (N := 17) hx hb hg iX6 hown hK hW kd_1 rfl 5 (lt_b rfl) (hg (Cond.fieldLink RX7 150 "SlabWalk$Paving" "leap" "[I") m176) (fun _ h9 => h9) rfl dX7_readWalker_211 ?_
                      refine lv_iload_n hx hb dX7_readWalker_214 rfl (lv_at hl 0 rfl) ?_
                      refine lv_aload_n hx hb dX7_readWalker_215 rfl (lv_at hl 1 rfl) ?_
                      refine S_getI (v := (G_79.1 5 9)) (C := RX7) (T := TX7) (N := 10) hx hb hg iX7 hown hK hW kd_5 rfl 9 (lt_b rfl) (hg (Cond.fieldLink RX7 99 "SlabWalk$Reader" "number" "I") m321) (fun _ h9 => h9) rfl rfl dX7_readWalker_216 ?_
                      refine S_iast hx hb hK hW hS kd_15 (vin ((by first | exact b_1.1 | omega)) ((by first | (clear f_17 c_18 f_24 c_25 f_31 c_32 f_40 hp_38 c_41 f_48 c_49 f_57 hp_55 c_58 f_65 c_66 ty_67 f_74 hp_72 c_75 f_83; omega) | omega))) dX7_readWalker_219 (fun G_84 H locs eG_84 hW hS => ?_)
                      have hB_G_84 : Bd G_84 := hB_G_79.put (V := (G_79.1 5 9).toInt) (lo := 0) (hi := 99) eG_84 rfl rfl rfl ((by first | exact f_83.1 | omega)) ((by first | exact f_83.2 | omega)) (hB_G_79.2.put eG_84 rfl)
                      have hF := hF.put eG_84 (Or.inl (by decide))
                      refine lv_aload_n hx hb dX7_readWalker_220 rfl (lv_at hl 1 rfl) ?_
                      refine S_getV (n := 1) (C := RX7) (T := TX7) (N := 10) hx hb hg iX7 hown hK hW kd_5 rfl 5 (lt_b rfl) (hg (Cond.fieldLink RX7 39 "SlabWalk$Reader" "paving" "LSlabWalk$Paving;") m317) (fun _ h9 => h9) rfl ((((congrFun (congrFun (congrArg (fun q => q.2.2) eG_84) 5) 5).trans ((hq_81.r9 5 5 rfl rfl).trans ((congrFun (congrFun (congrArg (fun q => q.2.2) eG_76) 5) 5).trans ((hq_71.r9 5 5 rfl rfl).trans ((hq_62.r9 5 5 rfl rfl).trans ((congrFun (congrFun (congrArg (fun q => q.2.2) eG_59) 5) 5).trans ((hq_54.r9 5 5 rfl rfl).trans ((hq_45.r9 5 5 rfl rfl).trans ((congrFun (congrFun (congrArg (fun q => q.2.2) eG_42) 5) 5).trans ((hq_37.r9 5 5 rfl rfl).trans ((hq_28.r9 5 5 rfl rfl).trans ((hq_21.r9 5 5 rfl rfl).trans ((hq_14.r9 5 5 rfl rfl).trans (hq_8.r9 5 5 rfl rfl))))))))))))))).trans (hv_5_5)) dX7_readWalker_221 ?_
                      refine lv_dup hx hb dX7_readWalker_224 rfl ?_
                      refine S_getI (v := (G.1 1 10)) (C := RX6) (T := TX6) (N := 17) hx hb hg iX6 hown hK hW kd_1 rfl 10 (lt_b rfl) (hg (Cond.fieldLink RX7 138 "SlabWalk$Paving" "walkers" "I") m190) (fun _ h9 => h9) rfl ((gp_ne eG_84 (fun q => absurd q.1 (Nat.ne_of_beq_eq_false rfl))).trans ((hq_81.i9 1 10 rfl rfl).trans ((gp_ne eG_76 (fun q => absurd q.1 (Nat.ne_of_beq_eq_false rfl))).trans ((hq_71.i9 1 10 rfl rfl).trans ((hq_62.i9 1 10 rfl rfl).trans ((gp_ne eG_59 (fun q => absurd q.1 (Nat.ne_of_beq_eq_false rfl))).trans ((hq_54.i9 1 10 rfl rfl).trans ((hq_45.i9 1 10 rfl rfl).trans ((gp_ne eG_42 (fun q => absurd q.1 (Nat.ne_of_beq_eq_false rfl))).trans ((hq_37.i9 1 10 rfl rfl).trans ((hq_28.i9 1 10 rfl rfl).trans ((hq_21.i9 1 10 rfl rfl).trans ((hq_14.i9 1 10 rfl rfl).trans ((hq_8.i9 1 10 rfl rfl).trans (rfl))))))))))))))) dX7_readWalker_225 ?_
                      refine ic_1 hx hb dX7_readWalker_228 ?_
                      refine lv_iadd hx hb dX7_readWalker_229 ?_
                      refine lv_topi (fun y_85 ey_85 => ?_)
                      have ty_85 : y_85.toInt = (G.1 1 10).toInt + 1 := xI_add rfl rfl ey_85 ((by first | exact ok_21 b_1.1 | omega)) ((by first | exact ok_427 b_1.2 | omega))
                      refine S_putI (ty := .int) (C := RX6) (T := TX6) (N := 17) hx hb hg iX6 tyX6 tyX6_ok nmX6 hown hK hW hS kd_1 rfl 10 (lt_b rfl) (hg (Cond.fieldLink RX7 138 "SlabWalk$Paving" "walkers" "I") m190) (fun _ h9 => h9) rfl (by decide +kernel) rfl rfl rfl dX7_readWalker_230 (fun G_86 H locs eG_86 hW hS => ?_)
                      have u_87 : (G_84.1 12 (G.1 1 10).toNatClampNeg).toInt = (G_36.1 5 9).toInt := by rw [show G_84.1 12 (G.1 1 10).toNatClampNeg = (G_36.1 5 9) from ((gp_ne eG_84 (fun q => absurd q.1 (Nat.ne_of_beq_eq_false rfl))).trans ((hq_81.ri9 12 rfl ((G.1 1 10).toNatClampNeg)).trans ((gp_ne eG_76 (fun q => absurd q.1 (Nat.ne_of_beq_eq_false rfl))).trans ((hq_71.ri9 12 rfl ((G.1 1 10).toNatClampNeg)).trans ((hq_62.ri9 12 rfl ((G.1 1 10).toNatClampNeg)).trans ((gp_ne eG_59 (fun q => absurd q.1 (Nat.ne_of_beq_eq_false rfl))).trans ((hq_54.ri9 12 rfl ((G.1 1 10).toNatClampNeg)).trans ((hq_45.ri9 12 rfl ((G.1 1 10).toNatClampNeg)).trans (gp_eq eG_42)))))))))]
                      have u_88 : (G_84.1 13 (G.1 1 10).toNatClampNeg).toInt = y_67.toInt := by rw [show G_84.1 13 (G.1 1 10).toNatClampNeg = y_67 from ((gp_ne eG_84 (fun q => absurd q.1 (Nat.ne_of_beq_eq_false rfl))).trans ((hq_81.ri9 13 rfl ((G.1 1 10).toNatClampNeg)).trans ((gp_ne eG_76 (fun q => absurd q.1 (Nat.ne_of_beq_eq_false rfl))).trans ((hq_71.ri9 13 rfl ((G.1 1 10).toNatClampNeg)).trans (ey_67.symm)))))]
                      have u_89 : (G_84.1 14 (G.1 1 10).toNatClampNeg).toInt = (G_70.1 5 9).toInt := by rw [show G_84.1 14 (G.1 1 10).toNatClampNeg = (G_70.1 5 9) from ((gp_ne eG_84 (fun q => absurd q.1 (Nat.ne_of_beq_eq_false rfl))).trans ((hq_81.ri9 14 rfl ((G.1 1 10).toNatClampNeg)).trans (gp_eq eG_76)))]
                      have hB_G_86 : Bd G_86 := hB_G_84.put (V := y_85.toInt) (lo := 0) (hi := 4) eG_86 rfl rfl rfl ((by first | exact ok_23 b_1.1 ty_85 | omega)) ((by first | (clear f_17 c_18 f_24 c_25 f_31 c_32 f_48 c_49 f_57 hp_55 c_58 f_65 c_66 f_83; omega) | omega)) (hB_G_84.2.walkers (P := 1) eG_86 (by decide) (inc_w (P := 1) (j := (G.1 1 10).toNatClampNeg) (fun h => hB_G_84.2.of1 h) (by rw [show G_84.1 1 10 = (G.1 1 10) from ((gp_ne eG_84 (fun q => absurd q.1 (Nat.ne_of_beq_eq_false rfl))).trans ((hq_81.i9 1 10 rfl rfl).trans ((gp_ne eG_76 (fun q => absurd q.1 (Nat.ne_of_beq_eq_false rfl))).trans ((hq_71.i9 1 10 rfl rfl).trans ((hq_62.i9 1 10 rfl rfl).trans ((gp_ne eG_59 (fun q => absurd q.1 (Nat.ne_of_beq_eq_false rfl))).trans ((hq_54.i9 1 10 rfl rfl).trans ((hq_45.i9 1 10 rfl rfl).trans ((gp_ne eG_42 (fun q => absurd q.1 (Nat.ne_of_beq_eq_false rfl))).trans ((hq_37.i9 1 10 rfl rfl).trans ((hq_28.i9 1 10 rfl rfl).trans ((hq_21.i9 1 10 rfl rfl).trans ((hq_14.i9 1 10 rfl rfl).trans ((hq_8.i9 1 10 rfl rfl).trans (rfl)))))))))))))))]; omega) (by rw [tN (by first | (clear f_17 c_18 f_24 c_25 f_31 c_32 f_48 c_49 f_65 c_66; omega) | omega), show G_84.1 1 10 = (G.1 1 10) from ((gp_ne eG_84 (fun q => absurd q.1 (Nat.ne_of_beq_eq_false rfl))).trans ((hq_81.i9 1 10 rfl rfl).trans ((gp_ne eG_76 (fun q => absurd q.1 (Nat.ne_of_beq_eq_false rfl))).trans ((hq_71.i9 1 10 rfl rfl).trans ((hq_62.i9 1 10 rfl rfl).trans ((gp_ne eG_59 (fun q => absurd q.1 (Nat.ne_of_beq_eq_false rfl))).trans ((hq_54.i9 1 10 rfl rfl).trans ((hq_45.i9 1 10 rfl rfl).trans ((gp_ne eG_42 (fun q => absurd q.1 (Nat.ne_of_beq_eq_false rfl))).trans ((hq_37.i9 1 10 rfl rfl).trans ((hq_28.i9 1 10 rfl rfl).trans ((hq_21.i9 1 10 rfl rfl).trans ((hq_14.i9 1 10 rfl rfl).trans ((hq_8.i9 1 10 rfl rfl).trans (rfl)))))))))))))))]) ⟨show 1 ≤ (G_84.1 12 (G.1 1 10).toNatClampNeg).toInt from by omega, show (G_84.1 13 (G.1 1 10).toNatClampNeg).toInt ≤ (G_84.1 14 (G.1 1 10).toNatClampNeg).toInt from by omega⟩))
                      have hF := hF.put eG_86 (Or.inr (by decide))
                      refine lv_aload_n hx hb dX7_readWalker_233 rfl (lv_at hl 1 rfl) ?_
                      refine S_getR (n := 3) (C := RX7) (T := TX7) (N := 10) hx hb hg iX7 hown hK hW kd_5 rfl 0 (lt_b rfl) (hg (Cond.fieldLink RX7 26 "SlabWalk$Reader" "tokens" "LSlabWalk$Tokens;") m311) (fun _ h9 => h9) rfl dX7_readWalker_234 ?_
                      refine lv_bipush (v := 59) hx hb dX7_readWalker_237 (by decide) ?_
                      refine S_calli (va_runV (As := [.int 59]) (rest := []) ⟨hx, hb, hml, hown, hts⟩ (k_tPass l D k A a z G_86 59 ) (cwV 1 hts (gd_V hgd m786 m787 m788 m120 m789) rfl rfl rfl hd_X9_pass ⟨Nat.le_of_ble_eq_true rfl, Nat.le_of_ble_eq_true rfl⟩) (pre_W hW hB_G_86 hK hZ hS kd_3 rfl) rfl rfl hl.1 rfl (lv_room (Nat.le_of_ble_eq_true rfl)) dX7_readWalker_239 ⟨Nat.le_of_ble_eq_true rfl, Nat.le_of_ble_eq_true rfl⟩) hS (fun r_90 G_91 H locs hpo hW hS => ?_)
                      have hX_94 : P_tPass 59 G_86 r_90 G_91 := hpo
                      obtain ⟨hB_G_91, hq_92, f_95, -⟩ := hpo
                      have hF := hF.call9 hq_92 rfl rfl
                      exact W.zret (v := r_90) hx hb hr (nar_z ((by first | exact f_95.1 | omega)) ((by first | exact f_95.2 | omega))) (fun t ht _ => ⟨⟨r_90, G_91, rfl, (P_rWalker_1_mk ⟨hB_G_91, hF, ⟨(by first | exact f_95.1 | omega), (by first | exact f_95.2 | omega)⟩, ⟨w_4, G_6, hX_9, f_10, f_11, hB_G_6, hq_8, ⟨r_12, G_13, hX_16, (Or.inr ⟨c_18, ⟨r_19, G_20, hX_23, (Or.inr ⟨c_25, ⟨r_26, G_27, hX_30, (Or.inr ⟨c_32, ⟨r_35, G_36, hX_39, (Or.inr ⟨c_41, ⟨G_42, hB_G_42, (Fr.put (rs := [12]) (fs := []) Fr.rf eG_42 (Or.inl (by decide))), rw_ast eG_42, ⟨r_43, G_44, hX_47, (Or.inr ⟨c_49, ⟨r_52, G_53, hX_56, (Or.inr ⟨c_58, ⟨G_59, hB_G_59, (Fr.put (rs := [13]) (fs := []) Fr.rf eG_59 (Or.inl (by decide))), rw_ast eG_59, ⟨r_60, G_61, hX_64, (Or.inr ⟨c_66, ⟨y_67, ey_67, ⟨r_69, G_70, hX_73, (Or.inr ⟨c_75, ⟨G_76, hB_G_76, (Fr.put (rs := [14]) (fs := []) Fr.rf eG_76 (Or.inl (by decide))), rw_ast eG_76, (Or.inr ⟨G_79, hX_82, f_83, hB_G_79, hq_81, ⟨y_85, ty_85, ⟨G_86, hB_G_86, (Fr.put (rs := [15]) (fs := [(1, 10)]) (Fr.put (rs := [15]) (fs := [(1, 10)]) Fr.rf eG_84 (Or.inl (by decide))) eG_86 (Or.inr (by decide))), (gp_eq eG_86), (rw_put eG_86 (by decide)).trans (rw_ast eG_84), ⟨r_90, G_91, hX_94, ⟨rfl, rfl⟩⟩⟩⟩⟩)⟩⟩)⟩⟩⟩)⟩⟩⟩)⟩⟩)⟩⟩⟩)⟩⟩)⟩⟩)⟩⟩)⟩⟩⟩), wd_t ht hW⟩, hS.F ht⟩) hS.2.2 dX7_readWalker_242
                    refine lv_icmp_ne (tgt := 207) hx hb dX7_readWalker_169 rfl (fun c_96 => ?_) (fun c_96 => ?_)
                    · have c_96 : (G_70.1 3 3).toInt ≠ 133 := xI_ne rfl rfl c_96
                      have g_97 : (G_76.1 5 9).toInt = (G_70.1 5 9).toInt := (congrArg Int32.toInt (show G_76.1 5 9 = (G_70.1 5 9) from ((gp_ne eG_76 (fun q => absurd q.1 (Nat.ne_of_beq_eq_false rfl))).trans (rfl))))
                      exact hJ_80 () _ _ _ ⟨G_76, ((by first | exact ⟨(by first | exact ok_428 ty_67.1 f_74.1 f_74.2 hp_72 c_75 g_97 | omega), (by first | exact ok_429 qc_51 f_74.1 f_74.2 hp_72 c_75 g_97 | omega)⟩ | omega)), (Jn_k_rWalker_1_2_mk (Or.inr ⟨c_96, rfl⟩)), hW, hB_G_76, hF, (Fr.rf (rs := []) (fs := [(3, 2), (3, 3), (3, 4), (3, 5), (3, 6), (3, 7), (3, 8), (5, 9)])), hS, lv_sub hl [0, 1] rfl⟩
                    · have c_96 : (G_70.1 3 3).toInt = 133 := xI_eq rfl rfl c_96
                      refine lv_aload_n hx hb dX7_readWalker_172 rfl (lv_at hl 1 rfl) ?_
                      refine S_getR (n := 3) (C := RX7) (T := TX7) (N := 10) hx hb hg iX7 hown hK hW kd_5 rfl 0 (lt_b rfl) (hg (Cond.fieldLink RX7 26 "SlabWalk$Reader" "tokens" "LSlabWalk$Tokens;") m311) (fun _ h9 => h9) rfl dX7_readWalker_173 ?_
                      refine lv_sipush (v := 133) hx hb dX7_readWalker_176 (by decide) ?_
                      refine S_calli (va_runV (As := [.int 133]) (rest := []) ⟨hx, hb, hml, hown, hts⟩ (k_tPass l D k A a z G_76 133 ) (cwV 1 hts (gd_V hgd m786 m787 m788 m120 m789) rfl rfl rfl hd_X9_pass ⟨Nat.le_of_ble_eq_true rfl, Nat.le_of_ble_eq_true rfl⟩) (pre_W hW hB_G_76 hK hZ hS kd_3 rfl) rfl rfl hl.1 rfl (lv_room (Nat.le_of_ble_eq_true rfl)) dX7_readWalker_179 ⟨Nat.le_of_ble_eq_true rfl, Nat.le_of_ble_eq_true rfl⟩) hS (fun r_98 G_99 H locs hpo hW hS => ?_)
                      have hX_102 : P_tPass 133 G_76 r_98 G_99 := hpo
                      obtain ⟨hB_G_99, hq_100, f_103, -⟩ := hpo
                      have hF := hF.call9 hq_100 rfl rfl
                      refine lv_if_eq (tgt := 205) hx hb dX7_readWalker_182 rfl (fun c_104 => ?_) (fun c_104 => ?_)
                      · have c_104 : r_98.toInt = 0 := xI_eq rfl rfl c_104
                        refine ic_0 hx hb dX7_readWalker_205 ?_
                        exact W.zret (v := 0) hx hb hr (by decide) (fun t ht _ => ⟨⟨0, G_99, rfl, (P_rWalker_1_mk ⟨hB_G_99, hF, ⟨by decide, by decide⟩, ⟨w_4, G_6, hX_9, f_10, f_11, hB_G_6, hq_8, ⟨r_12, G_13, hX_16, (Or.inr ⟨c_18, ⟨r_19, G_20, hX_23, (Or.inr ⟨c_25, ⟨r_26, G_27, hX_30, (Or.inr ⟨c_32, ⟨r_35, G_36, hX_39, (Or.inr ⟨c_41, ⟨G_42, hB_G_42, (Fr.put (rs := [12]) (fs := []) Fr.rf eG_42 (Or.inl (by decide))), rw_ast eG_42, ⟨r_43, G_44, hX_47, (Or.inr ⟨c_49, ⟨r_52, G_53, hX_56, (Or.inr ⟨c_58, ⟨G_59, hB_G_59, (Fr.put (rs := [13]) (fs := []) Fr.rf eG_59 (Or.inl (by decide))), rw_ast eG_59, ⟨r_60, G_61, hX_64, (Or.inr ⟨c_66, ⟨y_67, ey_67, ⟨r_69, G_70, hX_73, (Or.inr ⟨c_75, ⟨G_76, hB_G_76, (Fr.put (rs := [14]) (fs := []) Fr.rf eG_76 (Or.inl (by decide))), rw_ast eG_76, (Or.inl ⟨c_96, ⟨r_98, G_99, hX_102, (Or.inl ⟨c_104, ⟨rfl, rfl⟩⟩)⟩⟩)⟩⟩)⟩⟩⟩)⟩⟩⟩)⟩⟩)⟩⟩⟩)⟩⟩)⟩⟩)⟩⟩)⟩⟩⟩), wd_t ht hW⟩, hS.F ht⟩) hS.2.2 dX7_readWalker_206
                      · have c_104 : r_98.toInt ≠ 0 := xI_ne rfl rfl c_104
                        refine lv_aload_n hx hb dX7_readWalker_185 rfl (lv_at hl 1 rfl) ?_
                        refine lv_aload_n hx hb dX7_readWalker_186 rfl (lv_at hl 1 rfl) ?_
                        refine S_getV (n := 1) (C := RX7) (T := TX7) (N := 10) hx hb hg iX7 hown hK hW kd_5 rfl 5 (lt_b rfl) (hg (Cond.fieldLink RX7 39 "SlabWalk$Reader" "paving" "LSlabWalk$Paving;") m317) (fun _ h9 => h9) rfl ((((hq_100.r9 5 5 rfl rfl).trans ((congrFun (congrFun (congrArg (fun q => q.2.2) eG_76) 5) 5).trans ((hq_71.r9 5 5 rfl rfl).trans ((hq_62.r9 5 5 rfl rfl).trans ((congrFun (congrFun (congrArg (fun q => q.2.2) eG_59) 5) 5).trans ((hq_54.r9 5 5 rfl rfl).trans ((hq_45.r9 5 5 rfl rfl).trans ((congrFun (congrFun (congrArg (fun q => q.2.2) eG_42) 5) 5).trans ((hq_37.r9 5 5 rfl rfl).trans ((hq_28.r9 5 5 rfl rfl).trans ((hq_21.r9 5 5 rfl rfl).trans ((hq_14.r9 5 5 rfl rfl).trans (hq_8.r9 5 5 rfl rfl)))))))))))))).trans (hv_5_5)) dX7_readWalker_187 ?_
                        refine S_getR (n := 14) (C := RX6) (T := TX6) (N := 17) hx hb hg iX6 hown hK hW kd_1 rfl 4 (lt_b rfl) (hg (Cond.fieldLink RX7 147 "SlabWalk$Paving" "most" "[I") m172) (fun _ h9 => h9) rfl dX7_readWalker_190 ?_
                        refine lv_iload_n hx hb dX7_readWalker_193 rfl (lv_at hl 0 rfl) ?_
                        refine S_iald hx hb hK hW kd_14 (vin ((by first | exact b_1.1 | omega)) ((by first | (clear f_17 c_18 f_24 c_25 f_31 c_32 f_40 hp_38 c_41 f_48 c_49 f_57 hp_55 c_58 f_65 c_66 ty_67 f_74 hp_72 c_75 c_96 f_103 c_104; omega) | omega))) dX7_readWalker_194 (fun y_105 ey_105 => ?_)
                        have ty_105 : 0 ≤ y_105.toInt ∧ y_105.toInt ≤ 60 := bv_14 hB_G_99 ey_105
                        refine ic_1 hx hb dX7_readWalker_195 ?_
                        refine lv_iadd hx hb dX7_readWalker_196 ?_
                        refine lv_topi (fun y_106 ey_106 => ?_)
                        have ty_106 : y_106.toInt = y_105.toInt + 1 := xI_add rfl rfl ey_106 ((by first | exact ok_21 ty_105.1 | omega)) ((by first | exact ok_238 ty_105.2 | omega))
                        refine lv_bipush (v := 99) hx hb dX7_readWalker_197 (by decide) ?_
                        have qc_107 : (99 : Int32).toInt = 99 := rfl
                        refine S_calli (va_runV (As := [.int y_106, .int 99]) (rest := []) ⟨hx, hb, hml, hown, hts⟩ (k_rNum l D k A a z G_99 y_106 99 ) (cwV 2 hts (gd_V hgd m791 m793 m11 m119 m794) rfl rfl rfl hd_X7_passNumber ⟨Nat.le_of_ble_eq_true rfl, Nat.le_of_ble_eq_true rfl⟩) (pre_W hW hB_G_99 hK hZ hS kd_5 rfl) rfl rfl hl.1 rfl (lv_room (Nat.le_of_ble_eq_true rfl)) dX7_readWalker_199 ⟨Nat.le_of_ble_eq_true rfl, Nat.le_of_ble_eq_true rfl⟩) hS (fun r_108 G_109 H locs hpo hW hS => ?_)
                        have hX_112 : P_rNum y_106 99 G_99 r_108 G_109 := hpo
                        obtain ⟨hB_G_109, hq_110, f_113, hp_111, -⟩ := hpo
                        have hF := hF.call9 hq_110 rfl rfl
                        refine lv_if_ne (tgt := 207) hx hb dX7_readWalker_202 rfl (fun c_114 => ?_) (fun c_114 => ?_)
                        · have c_114 : r_108.toInt ≠ 0 := xI_ne rfl rfl c_114
                          exact hJ_80 () _ _ _ ⟨G_109, ((by first | exact ⟨(by first | exact ok_430 ty_105.1 ty_106 f_113.1 f_113.2 hp_111 c_114 | omega), (by first | exact ok_431 qc_107 f_113.1 f_113.2 hp_111 c_114 | omega)⟩ | omega)), (Jn_k_rWalker_1_2_mk (Or.inl ⟨c_96, ⟨r_98, G_99, hX_102, ⟨c_104, ⟨y_105, ey_105, ⟨y_106, ty_106, ⟨r_108, G_109, hX_112, ⟨c_114, rfl⟩⟩⟩⟩⟩⟩⟩)), hW, hB_G_109, hF, (Fr.call9 (rs := []) (fs := [(3, 2), (3, 3), (3, 4), (3, 5), (3, 6), (3, 7), (3, 8), (5, 9)]) (Fr.call9 (rs := []) (fs := [(3, 2), (3, 3), (3, 4), (3, 5), (3, 6), (3, 7), (3, 8), (5, 9)]) Fr.rf hq_100 rfl rfl) hq_110 rfl rfl), hS, lv_sub hl [0, 1] rfl⟩
                        · have c_114 : r_108.toInt = 0 := xI_eq rfl rfl c_114
                          refine ic_0 hx hb dX7_readWalker_205 ?_
                          exact W.zret (v := 0) hx hb hr (by decide) (fun t ht _ => ⟨⟨0, G_109, rfl, (P_rWalker_1_mk ⟨hB_G_109, hF, ⟨by decide, by decide⟩, ⟨w_4, G_6, hX_9, f_10, f_11, hB_G_6, hq_8, ⟨r_12, G_13, hX_16, (Or.inr ⟨c_18, ⟨r_19, G_20, hX_23, (Or.inr ⟨c_25, ⟨r_26, G_27, hX_30, (Or.inr ⟨c_32, ⟨r_35, G_36, hX_39, (Or.inr ⟨c_41, ⟨G_42, hB_G_42, (Fr.put (rs := [12]) (fs := []) Fr.rf eG_42 (Or.inl (by decide))), rw_ast eG_42, ⟨r_43, G_44, hX_47, (Or.inr ⟨c_49, ⟨r_52, G_53, hX_56, (Or.inr ⟨c_58, ⟨G_59, hB_G_59, (Fr.put (rs := [13]) (fs := []) Fr.rf eG_59 (Or.inl (by decide))), rw_ast eG_59, ⟨r_60, G_61, hX_64, (Or.inr ⟨c_66, ⟨y_67, ey_67, ⟨r_69, G_70, hX_73, (Or.inr ⟨c_75, ⟨G_76, hB_G_76, (Fr.put (rs := [14]) (fs := []) Fr.rf eG_76 (Or.inl (by decide))), rw_ast eG_76, (Or.inl ⟨c_96, ⟨r_98, G_99, hX_102, (Or.inr ⟨c_104, ⟨y_105, ey_105, ⟨y_106, ty_106, ⟨r_108, G_109, hX_112, ⟨c_114, ⟨rfl, rfl⟩⟩⟩⟩⟩⟩)⟩⟩)⟩⟩)⟩⟩⟩)⟩⟩⟩)⟩⟩)⟩⟩⟩)⟩⟩)⟩⟩)⟩⟩)⟩⟩⟩), wd_t ht hW⟩, hS.F ht⟩) hS.2.2 dX7_readWalker_206
                  · have c_75 : r_69.toInt = 0 := xI_eq rfl rfl c_75
                    refine ic_0 hx hb dX7_readWalker_144 ?_
                    exact W.zret (v := 0) hx hb hr (by decide) (fun t ht _ => ⟨⟨0, G_70, rfl, (P_rWalker_1_mk ⟨hB_G_70, hF, ⟨by decide, by decide⟩, ⟨w_4, G_6, hX_9, f_10, f_11, hB_G_6, hq_8, ⟨r_12, G_13, hX_16, (Or.inr ⟨c_18, ⟨r_19, G_20, hX_23, (Or.inr ⟨c_25, ⟨r_26, G_27, hX_30, (Or.inr ⟨c_32, ⟨r_35, G_36, hX_39, (Or.inr ⟨c_41, ⟨G_42, hB_G_42, (Fr.put (rs := [12]) (fs := []) Fr.rf eG_42 (Or.inl (by decide))), rw_ast eG_42, ⟨r_43, G_44, hX_47, (Or.inr ⟨c_49, ⟨r_52, G_53, hX_56, (Or.inr ⟨c_58, ⟨G_59, hB_G_59, (Fr.put (rs := [13]) (fs := []) Fr.rf eG_59 (Or.inl (by decide))), rw_ast eG_59, ⟨r_60, G_61, hX_64, (Or.inr ⟨c_66, ⟨y_67, ey_67, ⟨r_69, G_70, hX_73, (Or.inl ⟨c_75, ⟨rfl, rfl⟩⟩)⟩⟩⟩)⟩⟩⟩)⟩⟩)⟩⟩⟩)⟩⟩)⟩⟩)⟩⟩)⟩⟩⟩), wd_t ht hW⟩, hS.F ht⟩) hS.2.2 dX7_readWalker_145
              · have c_58 : r_52.toInt = 0 := xI_eq rfl rfl c_58
                refine ic_0 hx hb dX7_readWalker_98 ?_
                exact W.zret (v := 0) hx hb hr (by decide) (fun t ht _ => ⟨⟨0, G_53, rfl, (P_rWalker_1_mk ⟨hB_G_53, hF, ⟨by decide, by decide⟩, ⟨w_4, G_6, hX_9, f_10, f_11, hB_G_6, hq_8, ⟨r_12, G_13, hX_16, (Or.inr ⟨c_18, ⟨r_19, G_20, hX_23, (Or.inr ⟨c_25, ⟨r_26, G_27, hX_30, (Or.inr ⟨c_32, ⟨r_35, G_36, hX_39, (Or.inr ⟨c_41, ⟨G_42, hB_G_42, (Fr.put (rs := [12]) (fs := []) Fr.rf eG_42 (Or.inl (by decide))), rw_ast eG_42, ⟨r_43, G_44, hX_47, (Or.inr ⟨c_49, ⟨r_52, G_53, hX_56, (Or.inl ⟨c_58, ⟨rfl, rfl⟩⟩)⟩⟩)⟩⟩⟩)⟩⟩)⟩⟩)⟩⟩)⟩⟩⟩), wd_t ht hW⟩, hS.F ht⟩) hS.2.2 dX7_readWalker_99
          · have c_41 : r_35.toInt = 0 := xI_eq rfl rfl c_41
            refine ic_0 hx hb dX7_readWalker_60 ?_
            exact W.zret (v := 0) hx hb hr (by decide) (fun t ht _ => ⟨⟨0, G_36, rfl, (P_rWalker_1_mk ⟨hB_G_36, hF, ⟨by decide, by decide⟩, ⟨w_4, G_6, hX_9, f_10, f_11, hB_G_6, hq_8, ⟨r_12, G_13, hX_16, (Or.inr ⟨c_18, ⟨r_19, G_20, hX_23, (Or.inr ⟨c_25, ⟨r_26, G_27, hX_30, (Or.inr ⟨c_32, ⟨r_35, G_36, hX_39, (Or.inl ⟨c_41, ⟨rfl, rfl⟩⟩)⟩⟩)⟩⟩)⟩⟩)⟩⟩⟩), wd_t ht hW⟩, hS.F ht⟩) hS.2.2 dX7_readWalker_61
  refine lv_icmp_ge (tgt := 18) hx hb dX7_readWalker_11 rfl (fun c_115 => ?_) (fun c_115 => ?_)
  · have c_115 : 4 ≤ (G.1 1 10).toInt := xI_le rfl rfl c_115
    refine ic_0 hx hb dX7_readWalker_18 ?_
    have qc_116 : (0 : Int32).toInt = 0 := rfl
    exact hJ_7 0 _ _ _ ⟨G, ⟨(by decide), (by decide)⟩, ((by first | exact ok_432 | omega)), (Jn_k_rWalker_1_1_mk (Or.inl ⟨c_115, ⟨rfl, rfl⟩⟩)), hW, hB_G, hF, (Fr.rf (rs := []) (fs := [])), hS, lv_sub hl [0, 1] rfl⟩
  · have c_115 : (G.1 1 10).toInt < 4 := xI_nle rfl rfl c_115
    refine ic_1 hx hb dX7_readWalker_14 ?_
    refine lv_goto (tgt := 19) hx hb dX7_readWalker_15 rfl ?_
    have qc_117 : (1 : Int32).toInt = 1 := rfl
    exact hJ_7 1 _ _ _ ⟨G, ⟨(by decide), (by decide)⟩, ((by first | exact ok_433 b_1.2 c_115 | omega)), (Jn_k_rWalker_1_1_mk (Or.inr ⟨c_115, ⟨rfl, rfl⟩⟩)), hW, hB_G, hF, (Fr.rf (rs := []) (fs := [])), hS, lv_sub hl [0, 1] rfl⟩

set_option maxHeartbeats 4000000 in
set_option maxRecDepth 100000 in
theorem k_rRule_1 (l : Launch) (D : va_G) (k : KT) (A : Nat → Prop) (a : Nat → Nat) (z : SK) (G : GS)  (hv_5_5 : G.2.2 5 5 = 1) : Met l yX7_readRule (WS yX7_readRule cX7_readRule 1 (some .boolean)) ({ frames := 100, cells := 0, slots := 0, locals := 2150 }) (va_Pc [.ref (a 5)] (cW D k A a z G)) (va_Qi (fun (r : Int32) (G1 : GS) => P_rRule_1 G r G1) (fun (G1 : GS) t => Wd D k A a G1 t.heap) A) 0 0 A := by
  refine Met.ofW (cc := cX7_readRule) (maxL := 1) (ret := (some .boolean)) (by decide) rfl ?_
  intro p e s m args below meth c s₁ B hml hv
  obtain ⟨rfl, hW, hB_G, hK, hZ⟩ := hv
  have hx := B.exec
  have hb := B.bytes
  have hr := B.returns
  have hts := atoms_spec (ws := WS yX7_readRule cX7_readRule 1 (some .boolean)) B.pre
  have hgd : ∀ w ∈ gd, w ∈ WS yX7_readRule cX7_readRule 1 (some .boolean) := fun w h => List.mem_cons_of_mem _ h
  have hg : ∀ w ∈ gd, w.before _ s = true := fun w h => hts w (hgd w h)
  have hown : s.vm.findClass RX7 = some m.cls := findClass_of_methodNamed B.named
  have hS : va_S A s.heap s.heap [] := va_S.rf
  have hF : Fr [17, 18, 36] [(1, 11), (1, 12), (1, 13), (3, 2), (3, 3), (3, 4), (3, 5), (3, 6), (3, 7), (3, 8), (4, 1), (4, 2)] G G := Fr.rf
  have hl := lv_entry ([.ref (a 5)]) (n := 1) (Nat.le_of_ble_eq_true rfl)
  rw [lg_entry_eq]
  generalize (lg_sl ([.ref (a 5)]) ++ List.replicate (1 - (lg_sl ([.ref (a 5)])).length) Slot.unset).toArray = ls at hl ⊢
  have hl : lv_has ls 1 [(0, .ref (a 5))] := hl
  refine lv_aload_n hx hb dX7_readRule_0 rfl (lv_at hl 0 rfl) ?_
  refine lv_aload_n hx hb dX7_readRule_1 rfl (lv_at hl 0 rfl) ?_
  refine S_getV (n := 1) (C := RX7) (T := TX7) (N := 10) hx hb hg iX7 hown hK hW kd_5 rfl 5 (lt_b rfl) (hg (Cond.fieldLink RX7 39 "SlabWalk$Reader" "paving" "LSlabWalk$Paving;") m317) (fun _ h9 => h9) rfl hv_5_5 dX7_readRule_2 ?_
  have b_1 : 0 ≤ (G.1 1 11).toInt ∧ (G.1 1 11).toInt ≤ 6 := bd_1_11 hB_G
  refine S_getI (v := (G.1 1 11)) (C := RX6) (T := TX6) (N := 17) hx hb hg iX6 hown hK hW kd_1 rfl 11 (lt_b rfl) (hg (Cond.fieldLink RX7 153 "SlabWalk$Paving" "rules" "I") m194) (fun _ h9 => h9) rfl rfl dX7_readRule_5 ?_
  refine lv_bipush (v := 6) hx hb dX7_readRule_8 (by decide) ?_
  refine W.cut (σ := Int32) (pcJ := 18) (J := fun y H locs ls => ∃ (G_5 : GS), (0 ≤ y.toInt ∧ y.toInt ≤ 1) ∧ (y.toInt = 0 ∨ (G_5.1 1 11).toInt < 6) ∧ Jn_k_rRule_1_1 G y G_5 ∧ Wd D k A a G_5 H ∧ Bd G_5 ∧ Fr [17, 18, 36] [(1, 11), (1, 12), (1, 13), (3, 2), (3, 3), (3, 4), (3, 5), (3, 6), (3, 7), (3, 8), (4, 1), (4, 2)] G G_5 ∧ Fr [] [] G G_5 ∧ va_S A s.heap H locs ∧ lv_has ls 1 [(0, .ref (a 5))]) (stJ := fun y => [.int y, .ref (a 5)]) ?_ (fun hJ_6 => ?_)
  · intro y H locs ls hI
    obtain ⟨w_3, hy⟩ : ∃ q, q = y := ⟨_, rfl⟩
    subst hy
    obtain ⟨G_5, f_9, f_10, hX_8, hW, hB_G_5, hF, hq_7, hS, hl⟩ := hI
    have g_11 : (G_5.1 1 11).toInt = (G.1 1 11).toInt := (congrArg Int32.toInt (show G_5.1 1 11 = (G.1 1 11) from ((hq_7.i9 1 11 rfl rfl).trans (rfl))))
    refine S_calli (va_runV (As := [.int w_3]) (rest := []) ⟨hx, hb, hml, hown, hts⟩ (k_rFirst l D k A a z G_5 w_3 ⟨(by first | exact f_9.1 | omega), (by first | exact f_9.2 | omega)⟩) (cwV 1 hts (gd_V hgd m773 m775 m9 m119 m776) rfl rfl rfl hd_X7_passFirst ⟨Nat.le_of_ble_eq_true rfl, Nat.le_of_ble_eq_true rfl⟩) (pre_W hW hB_G_5 hK hZ hS kd_5 rfl) rfl rfl hl.1 rfl (lv_room (Nat.le_of_ble_eq_true rfl)) dX7_readRule_18 ⟨Nat.le_of_ble_eq_true rfl, Nat.le_of_ble_eq_true rfl⟩) hS (fun r_12 G_13 H locs hpo hW hS => ?_)
    have hX_16 : P_rFirst w_3 G_5 r_12 G_13 := hpo
    obtain ⟨hB_G_13, hq_14, f_17, hp_15, -⟩ := hpo
    have hF := hF.call9 hq_14 rfl rfl
    refine lv_if_eq (tgt := 42) hx hb dX7_readRule_21 rfl (fun c_18 => ?_) (fun c_18 => ?_)
    · have c_18 : r_12.toInt = 0 := xI_eq rfl rfl c_18
      refine ic_0 hx hb dX7_readRule_42 ?_
      exact W.zret (v := 0) hx hb hr (by decide) (fun t ht _ => ⟨⟨0, G_13, rfl, (P_rRule_1_mk ⟨hB_G_13, hF, ⟨by decide, by decide⟩, ⟨w_3, G_5, hX_8, f_9, f_10, hB_G_5, hq_7, ⟨r_12, G_13, hX_16, (Or.inl ⟨c_18, ⟨rfl, rfl⟩⟩)⟩⟩⟩), wd_t ht hW⟩, hS.F ht⟩) hS.2.2 dX7_readRule_43
    · have c_18 : r_12.toInt ≠ 0 := xI_ne rfl rfl c_18
      refine lv_aload_n hx hb dX7_readRule_24 rfl (lv_at hl 0 rfl) ?_
      refine lv_aload_n hx hb dX7_readRule_25 rfl (lv_at hl 0 rfl) ?_
      refine S_getR (n := 36) (C := RX7) (T := TX7) (N := 10) hx hb hg iX7 hown hK hW kd_5 rfl 4 (lt_b rfl) (hg (Cond.fieldLink RX7 18 "SlabWalk$Reader" "ruleNames" "[J") m316) (fun _ h9 => h9) rfl dX7_readRule_26 ?_
      refine lv_aload_n hx hb dX7_readRule_29 rfl (lv_at hl 0 rfl) ?_
      refine S_getV (n := 1) (C := RX7) (T := TX7) (N := 10) hx hb hg iX7 hown hK hW kd_5 rfl 5 (lt_b rfl) (hg (Cond.fieldLink RX7 39 "SlabWalk$Reader" "paving" "LSlabWalk$Paving;") m317) (fun _ h9 => h9) rfl ((((hq_14.r9 5 5 rfl rfl).trans (hq_7.r9 5 5 rfl rfl))).trans (hv_5_5)) dX7_readRule_30 ?_
      refine S_getI (v := (G.1 1 11)) (C := RX6) (T := TX6) (N := 17) hx hb hg iX6 hown hK hW kd_1 rfl 11 (lt_b rfl) (hg (Cond.fieldLink RX7 153 "SlabWalk$Paving" "rules" "I") m194) (fun _ h9 => h9) rfl ((hq_14.i9 1 11 rfl rfl).trans ((hq_7.i9 1 11 rfl rfl).trans (rfl))) dX7_readRule_33 ?_
      refine S_calli (va_runV (As := [.ref (a 36), .int (G.1 1 11)]) (rest := []) ⟨hx, hb, hml, hown, hts⟩ (k_rName_36 l D k A a z G_13 (G.1 1 11) ⟨(by first | exact b_1.1 | omega), (by first | exact b_1.2 | omega)⟩) (cwV 2 hts (gd_V hgd m782 m784 m10 m119 m785) rfl rfl rfl hd_X7_passName ⟨Nat.le_of_ble_eq_true rfl, Nat.le_of_ble_eq_true rfl⟩) (pre_W hW hB_G_13 hK hZ hS kd_5 rfl) rfl rfl hl.1 rfl (lv_room (Nat.le_of_ble_eq_true rfl)) dX7_readRule_36 ⟨Nat.le_of_ble_eq_true rfl, Nat.le_of_ble_eq_true rfl⟩) hS (fun r_19 G_20 H locs hpo hW hS => ?_)
      have hX_23 : P_rName_36 (G.1 1 11) G_13 r_19 G_20 := hpo
      obtain ⟨hB_G_20, hq_21, f_24, -⟩ := hpo
      have hF := hF.call9 hq_21 rfl rfl
      refine lv_if_ne (tgt := 44) hx hb dX7_readRule_39 rfl (fun c_25 => ?_) (fun c_25 => ?_)
      · have c_25 : r_19.toInt ≠ 0 := xI_ne rfl rfl c_25
        refine lv_aload_n hx hb dX7_readRule_44 rfl (lv_at hl 0 rfl) ?_
        refine S_getV (n := 1) (C := RX7) (T := TX7) (N := 10) hx hb hg iX7 hown hK hW kd_5 rfl 5 (lt_b rfl) (hg (Cond.fieldLink RX7 39 "SlabWalk$Reader" "paving" "LSlabWalk$Paving;") m317) (fun _ h9 => h9) rfl ((((hq_21.r9 5 5 rfl rfl).trans ((hq_14.r9 5 5 rfl rfl).trans (hq_7.r9 5 5 rfl rfl)))).trans (hv_5_5)) dX7_readRule_45 ?_
        refine S_getR (n := 18) (C := RX6) (T := TX6) (N := 17) hx hb hg iX6 hown hK hW kd_1 rfl 8 (lt_b rfl) (hg (Cond.fieldLink RX7 156 "SlabWalk$Paving" "codeEnd" "[I") m185) (fun _ h9 => h9) rfl dX7_readRule_48 ?_
        refine lv_aload_n hx hb dX7_readRule_51 rfl (lv_at hl 0 rfl) ?_
        refine S_getV (n := 1) (C := RX7) (T := TX7) (N := 10) hx hb hg iX7 hown hK hW kd_5 rfl 5 (lt_b rfl) (hg (Cond.fieldLink RX7 39 "SlabWalk$Reader" "paving" "LSlabWalk$Paving;") m317) (fun _ h9 => h9) rfl ((((hq_21.r9 5 5 rfl rfl).trans ((hq_14.r9 5 5 rfl rfl).trans (hq_7.r9 5 5 rfl rfl)))).trans (hv_5_5)) dX7_readRule_52 ?_
        refine S_getI (v := (G.1 1 11)) (C := RX6) (T := TX6) (N := 17) hx hb hg iX6 hown hK hW kd_1 rfl 11 (lt_b rfl) (hg (Cond.fieldLink RX7 153 "SlabWalk$Paving" "rules" "I") m194) (fun _ h9 => h9) rfl ((hq_21.i9 1 11 rfl rfl).trans ((hq_14.i9 1 11 rfl rfl).trans ((hq_7.i9 1 11 rfl rfl).trans (rfl)))) dX7_readRule_55 ?_
        refine lv_aload_n hx hb dX7_readRule_58 rfl (lv_at hl 0 rfl) ?_
        refine S_getV (n := 1) (C := RX7) (T := TX7) (N := 10) hx hb hg iX7 hown hK hW kd_5 rfl 5 (lt_b rfl) (hg (Cond.fieldLink RX7 39 "SlabWalk$Reader" "paving" "LSlabWalk$Paving;") m317) (fun _ h9 => h9) rfl ((((hq_21.r9 5 5 rfl rfl).trans ((hq_14.r9 5 5 rfl rfl).trans (hq_7.r9 5 5 rfl rfl)))).trans (hv_5_5)) dX7_readRule_59 ?_
        have b_26 : 0 ≤ (G.1 1 13).toInt ∧ (G.1 1 13).toInt ≤ 580 := bd_1_13 hB_G
        refine S_getI (v := (G.1 1 13)) (C := RX6) (T := TX6) (N := 17) hx hb hg iX6 hown hK hW kd_1 rfl 13 (lt_b rfl) (hg (Cond.fieldLink RX7 159 "SlabWalk$Paving" "coded" "I") m200) (fun _ h9 => h9) rfl ((hq_21.i9 1 13 rfl rfl).trans ((hq_14.i9 1 13 rfl rfl).trans (hq_7.i9 1 13 rfl rfl))) dX7_readRule_62 ?_
        refine S_iast hx hb hK hW hS kd_18 (vin ((by first | exact b_1.1 | omega)) ((by first | exact ok_434 b_1.2 | omega))) dX7_readRule_65 (fun G_27 H locs eG_27 hW hS => ?_)
        have hB_G_27 : Bd G_27 := hB_G_20.put (V := (G.1 1 13).toInt) (lo := 0) (hi := 580) eG_27 rfl rfl rfl ((by first | exact b_26.1 | omega)) ((by first | exact b_26.2 | omega)) (hB_G_20.2.put eG_27 rfl)
        have hF := hF.put eG_27 (Or.inl (by decide))
        refine lv_aload_n hx hb dX7_readRule_66 rfl (lv_at hl 0 rfl) ?_
        refine S_getR (n := 4) (C := RX7) (T := TX7) (N := 10) hx hb hg iX7 hown hK hW kd_5 rfl 1 (lt_b rfl) (hg (Cond.fieldLink RX7 35 "SlabWalk$Reader" "formulas" "LSlabWalk$Formulas;") m313) (fun _ h9 => h9) rfl dX7_readRule_67 ?_
        refine lv_aload_n hx hb dX7_readRule_70 rfl (lv_at hl 0 rfl) ?_
        refine S_getV (n := 1) (C := RX7) (T := TX7) (N := 10) hx hb hg iX7 hown hK hW kd_5 rfl 5 (lt_b rfl) (hg (Cond.fieldLink RX7 39 "SlabWalk$Reader" "paving" "LSlabWalk$Paving;") m317) (fun _ h9 => h9) rfl ((((congrFun (congrFun (congrArg (fun q => q.2.2) eG_27) 5) 5).trans ((hq_21.r9 5 5 rfl rfl).trans ((hq_14.r9 5 5 rfl rfl).trans (hq_7.r9 5 5 rfl rfl))))).trans (hv_5_5)) dX7_readRule_71 ?_
        refine S_calli (va_runV (As := [.ref (a 1)]) (rest := []) ⟨hx, hb, hml, hown, hts⟩ (k_fRead_1 l D k A a z G_27  ) (cwV 1 hts (gd_V hgd m817 m818 m819 m121 m820) rfl rfl rfl hd_X2_read ⟨Nat.le_of_ble_eq_true rfl, Nat.le_of_ble_eq_true rfl⟩) (pre_W hW hB_G_27 hK hZ hS kd_4 rfl) rfl rfl hl.1 rfl (lv_room (Nat.le_of_ble_eq_true rfl)) dX7_readRule_74 ⟨Nat.le_of_ble_eq_true rfl, Nat.le_of_ble_eq_true rfl⟩) hS (fun r_28 G_29 H locs hpo hW hS => ?_)
        have hX_32 : P_fRead_1 G_27 r_28 G_29 := hpo
        obtain ⟨hB_G_29, hq_30, f_33, -⟩ := hpo
        have hF := hF.call9 hq_30 rfl rfl
        refine lv_if_ne (tgt := 82) hx hb dX7_readRule_77 rfl (fun c_34 => ?_) (fun c_34 => ?_)
        · have c_34 : r_28.toInt ≠ 0 := xI_ne rfl rfl c_34
          refine lv_aload_n hx hb dX7_readRule_82 rfl (lv_at hl 0 rfl) ?_
          refine S_getV (n := 1) (C := RX7) (T := TX7) (N := 10) hx hb hg iX7 hown hK hW kd_5 rfl 5 (lt_b rfl) (hg (Cond.fieldLink RX7 39 "SlabWalk$Reader" "paving" "LSlabWalk$Paving;") m317) (fun _ h9 => h9) rfl ((((hq_30.r9 5 5 rfl rfl).trans ((congrFun (congrFun (congrArg (fun q => q.2.2) eG_27) 5) 5).trans ((hq_21.r9 5 5 rfl rfl).trans ((hq_14.r9 5 5 rfl rfl).trans (hq_7.r9 5 5 rfl rfl)))))).trans (hv_5_5)) dX7_readRule_83 ?_
          refine lv_dup hx hb dX7_readRule_86 rfl ?_
          refine S_getI (v := (G.1 1 11)) (C := RX6) (T := TX6) (N := 17) hx hb hg iX6 hown hK hW kd_1 rfl 11 (lt_b rfl) (hg (Cond.fieldLink RX7 153 "SlabWalk$Paving" "rules" "I") m194) (fun _ h9 => h9) rfl ((hq_30.i9 1 11 rfl rfl).trans ((gp_ne eG_27 (fun q => absurd q.1 (Nat.ne_of_beq_eq_false rfl))).trans ((hq_21.i9 1 11 rfl rfl).trans ((hq_14.i9 1 11 rfl rfl).trans ((hq_7.i9 1 11 rfl rfl).trans (rfl)))))) dX7_readRule_87 ?_
          refine ic_1 hx hb dX7_readRule_90 ?_
          refine lv_iadd hx hb dX7_readRule_91 ?_
          refine lv_topi (fun y_35 ey_35 => ?_)
          have ty_35 : y_35.toInt = (G.1 1 11).toInt + 1 := xI_add rfl rfl ey_35 ((by first | exact ok_21 b_1.1 | omega)) ((by first | exact ok_157 b_1.2 | omega))
          refine S_putI (ty := .int) (C := RX6) (T := TX6) (N := 17) hx hb hg iX6 tyX6 tyX6_ok nmX6 hown hK hW hS kd_1 rfl 11 (lt_b rfl) (hg (Cond.fieldLink RX7 153 "SlabWalk$Paving" "rules" "I") m194) (fun _ h9 => h9) rfl (by decide +kernel) rfl rfl rfl dX7_readRule_92 (fun G_36 H locs eG_36 hW hS => ?_)
          have hB_G_36 : Bd G_36 := hB_G_29.put (V := y_35.toInt) (lo := 0) (hi := 6) eG_36 rfl rfl rfl ((by first | exact ok_23 b_1.1 ty_35 | omega)) ((by first | (clear f_17 c_18 f_24 c_25 b_26 f_33 c_34; omega) | omega)) (hB_G_29.2.put eG_36 rfl)
          have hF := hF.put eG_36 (Or.inr (by decide))
          refine lv_aload_n hx hb dX7_readRule_95 rfl (lv_at hl 0 rfl) ?_
          refine S_getV (n := 1) (C := RX7) (T := TX7) (N := 10) hx hb hg iX7 hown hK hW kd_5 rfl 5 (lt_b rfl) (hg (Cond.fieldLink RX7 39 "SlabWalk$Reader" "paving" "LSlabWalk$Paving;") m317) (fun _ h9 => h9) rfl ((((congrFun (congrFun (congrArg (fun q => q.2.2) eG_36) 5) 5).trans ((hq_30.r9 5 5 rfl rfl).trans ((congrFun (congrFun (congrArg (fun q => q.2.2) eG_27) 5) 5).trans ((hq_21.r9 5 5 rfl rfl).trans ((hq_14.r9 5 5 rfl rfl).trans (hq_7.r9 5 5 rfl rfl))))))).trans (hv_5_5)) dX7_readRule_96 ?_
          refine S_getR (n := 18) (C := RX6) (T := TX6) (N := 17) hx hb hg iX6 hown hK hW kd_1 rfl 8 (lt_b rfl) (hg (Cond.fieldLink RX7 156 "SlabWalk$Paving" "codeEnd" "[I") m185) (fun _ h9 => h9) rfl dX7_readRule_99 ?_
          refine lv_aload_n hx hb dX7_readRule_102 rfl (lv_at hl 0 rfl) ?_
          refine S_getV (n := 1) (C := RX7) (T := TX7) (N := 10) hx hb hg iX7 hown hK hW kd_5 rfl 5 (lt_b rfl) (hg (Cond.fieldLink RX7 39 "SlabWalk$Reader" "paving" "LSlabWalk$Paving;") m317) (fun _ h9 => h9) rfl ((((congrFun (congrFun (congrArg (fun q => q.2.2) eG_36) 5) 5).trans ((hq_30.r9 5 5 rfl rfl).trans ((congrFun (congrFun (congrArg (fun q => q.2.2) eG_27) 5) 5).trans ((hq_21.r9 5 5 rfl rfl).trans ((hq_14.r9 5 5 rfl rfl).trans (hq_7.r9 5 5 rfl rfl))))))).trans (hv_5_5)) dX7_readRule_103 ?_
          refine S_getI (v := y_35) (C := RX6) (T := TX6) (N := 17) hx hb hg iX6 hown hK hW kd_1 rfl 11 (lt_b rfl) (hg (Cond.fieldLink RX7 153 "SlabWalk$Paving" "rules" "I") m194) (fun _ h9 => h9) rfl (gp_eq eG_36) dX7_readRule_106 ?_
          refine lv_aload_n hx hb dX7_readRule_109 rfl (lv_at hl 0 rfl) ?_
          refine S_getV (n := 1) (C := RX7) (T := TX7) (N := 10) hx hb hg iX7 hown hK hW kd_5 rfl 5 (lt_b rfl) (hg (Cond.fieldLink RX7 39 "SlabWalk$Reader" "paving" "LSlabWalk$Paving;") m317) (fun _ h9 => h9) rfl ((((congrFun (congrFun (congrArg (fun q => q.2.2) eG_36) 5) 5).trans ((hq_30.r9 5 5 rfl rfl).trans ((congrFun (congrFun (congrArg (fun q => q.2.2) eG_27) 5) 5).trans ((hq_21.r9 5 5 rfl rfl).trans ((hq_14.r9 5 5 rfl rfl).trans (hq_7.r9 5 5 rfl rfl))))))).trans (hv_5_5)) dX7_readRule_110 ?_
          have b_37 : 0 ≤ (G_29.1 1 13).toInt ∧ (G_29.1 1 13).toInt ≤ 580 := bd_1_13 hB_G_29
          refine S_getI (v := (G_29.1 1 13)) (C := RX6) (T := TX6) (N := 17) hx hb hg iX6 hown hK hW kd_1 rfl 13 (lt_b rfl) (hg (Cond.fieldLink RX7 159 "SlabWalk$Paving" "coded" "I") m200) (fun _ h9 => h9) rfl (gp_ne eG_36 (by decide)) dX7_readRule_113 ?_
          refine S_iast hx hb hK hW hS kd_18 (vin ((by first | exact ok_23 b_1.1 ty_35 | omega)) ((by first | (clear f_17 c_18 f_24 c_25 b_26 f_33 c_34 b_37; omega) | omega))) dX7_readRule_116 (fun G_38 H locs eG_38 hW hS => ?_)
          have hB_G_38 : Bd G_38 := hB_G_36.put (V := (G_29.1 1 13).toInt) (lo := 0) (hi := 580) eG_38 rfl rfl rfl ((by first | exact b_37.1 | omega)) ((by first | exact b_37.2 | omega)) (hB_G_36.2.put eG_38 rfl)
          have hF := hF.put eG_38 (Or.inl (by decide))
          refine lv_aload_n hx hb dX7_readRule_117 rfl (lv_at hl 0 rfl) ?_
          refine S_getR (n := 3) (C := RX7) (T := TX7) (N := 10) hx hb hg iX7 hown hK hW kd_5 rfl 0 (lt_b rfl) (hg (Cond.fieldLink RX7 26 "SlabWalk$Reader" "tokens" "LSlabWalk$Tokens;") m311) (fun _ h9 => h9) rfl dX7_readRule_118 ?_
          refine lv_bipush (v := 59) hx hb dX7_readRule_121 (by decide) ?_
          refine S_calli (va_runV (As := [.int 59]) (rest := []) ⟨hx, hb, hml, hown, hts⟩ (k_tPass l D k A a z G_38 59 ) (cwV 1 hts (gd_V hgd m786 m787 m788 m120 m789) rfl rfl rfl hd_X9_pass ⟨Nat.le_of_ble_eq_true rfl, Nat.le_of_ble_eq_true rfl⟩) (pre_W hW hB_G_38 hK hZ hS kd_3 rfl) rfl rfl hl.1 rfl (lv_room (Nat.le_of_ble_eq_true rfl)) dX7_readRule_123 ⟨Nat.le_of_ble_eq_true rfl, Nat.le_of_ble_eq_true rfl⟩) hS (fun r_39 G_40 H locs hpo hW hS => ?_)
          have hX_43 : P_tPass 59 G_38 r_39 G_40 := hpo
          obtain ⟨hB_G_40, hq_41, f_44, -⟩ := hpo
          have hF := hF.call9 hq_41 rfl rfl
          exact W.zret (v := r_39) hx hb hr (nar_z ((by first | exact f_44.1 | omega)) ((by first | exact f_44.2 | omega))) (fun t ht _ => ⟨⟨r_39, G_40, rfl, (P_rRule_1_mk ⟨hB_G_40, hF, ⟨(by first | exact f_44.1 | omega), (by first | exact f_44.2 | omega)⟩, ⟨w_3, G_5, hX_8, f_9, f_10, hB_G_5, hq_7, ⟨r_12, G_13, hX_16, (Or.inr ⟨c_18, ⟨r_19, G_20, hX_23, (Or.inr ⟨c_25, ⟨G_27, hB_G_27, (Fr.put (rs := [18]) (fs := []) Fr.rf eG_27 (Or.inl (by decide))), rw_ast eG_27, ⟨r_28, G_29, hX_32, (Or.inr ⟨c_34, ⟨y_35, ty_35, ⟨G_38, hB_G_38, (Fr.put (rs := [18]) (fs := [(1, 11)]) (Fr.put (rs := [18]) (fs := [(1, 11)]) Fr.rf eG_36 (Or.inr (by decide))) eG_38 (Or.inl (by decide))), ((gp_ne eG_38 (fun q => absurd q.1 (Nat.ne_of_beq_eq_false rfl))).trans (gp_eq eG_36)), (rw_ast eG_38).trans (congrArg (fun q => upd q (y_35.toNatClampNeg) (G_29.1 1 13)) (rw_put eG_36 (by decide))), ⟨r_39, G_40, hX_43, ⟨rfl, rfl⟩⟩⟩⟩⟩)⟩⟩⟩)⟩⟩)⟩⟩⟩), wd_t ht hW⟩, hS.F ht⟩) hS.2.2 dX7_readRule_126
        · have c_34 : r_28.toInt = 0 := xI_eq rfl rfl c_34
          refine ic_0 hx hb dX7_readRule_80 ?_
          exact W.zret (v := 0) hx hb hr (by decide) (fun t ht _ => ⟨⟨0, G_29, rfl, (P_rRule_1_mk ⟨hB_G_29, hF, ⟨by decide, by decide⟩, ⟨w_3, G_5, hX_8, f_9, f_10, hB_G_5, hq_7, ⟨r_12, G_13, hX_16, (Or.inr ⟨c_18, ⟨r_19, G_20, hX_23, (Or.inr ⟨c_25, ⟨G_27, hB_G_27, (Fr.put (rs := [18]) (fs := []) Fr.rf eG_27 (Or.inl (by decide))), rw_ast eG_27, ⟨r_28, G_29, hX_32, (Or.inl ⟨c_34, ⟨rfl, rfl⟩⟩)⟩⟩⟩)⟩⟩)⟩⟩⟩), wd_t ht hW⟩, hS.F ht⟩) hS.2.2 dX7_readRule_81
      · have c_25 : r_19.toInt = 0 := xI_eq rfl rfl c_25
        refine ic_0 hx hb dX7_readRule_42 ?_
        exact W.zret (v := 0) hx hb hr (by decide) (fun t ht _ => ⟨⟨0, G_20, rfl, (P_rRule_1_mk ⟨hB_G_20, hF, ⟨by decide, by decide⟩, ⟨w_3, G_5, hX_8, f_9, f_10, hB_G_5, hq_7, ⟨r_12, G_13, hX_16, (Or.inr ⟨c_18, ⟨r_19, G_20, hX_23, (Or.inl ⟨c_25, ⟨rfl, rfl⟩⟩)⟩⟩)⟩⟩⟩), wd_t ht hW⟩, hS.F ht⟩) hS.2.2 dX7_readRule_43
  refine lv_icmp_ge (tgt := 17) hx hb dX7_readRule_10 rfl (fun c_45 => ?_) (fun c_45 => ?_)
  · have c_45 : 6 ≤ (G.1 1 11).toInt := xI_le rfl rfl c_45
    refine ic_0 hx hb dX7_readRule_17 ?_
    have qc_46 : (0 : Int32).toInt = 0 := rfl
    exact hJ_6 0 _ _ _ ⟨G, ⟨(by decide), (by decide)⟩, ((by first | exact ok_435 | omega)), (Jn_k_rRule_1_1_mk (Or.inl ⟨c_45, ⟨rfl, rfl⟩⟩)), hW, hB_G, hF, (Fr.rf (rs := []) (fs := [])), hS, lv_sub hl [0] rfl⟩
  · have c_45 : (G.1 1 11).toInt < 6 := xI_nle rfl rfl c_45
    refine ic_1 hx hb dX7_readRule_13 ?_
    refine lv_goto (tgt := 18) hx hb dX7_readRule_14 rfl ?_
    have qc_47 : (1 : Int32).toInt = 1 := rfl
    exact hJ_6 1 _ _ _ ⟨G, ⟨(by decide), (by decide)⟩, ((by first | exact ok_436 b_1.2 c_45 | omega)), (Jn_k_rRule_1_1_mk (Or.inr ⟨c_45, ⟨rfl, rfl⟩⟩)), hW, hB_G, hF, (Fr.rf (rs := []) (fs := [])), hS, lv_sub hl [0] rfl⟩

set_option maxHeartbeats 4000000 in
set_option maxRecDepth 100000 in
theorem k_rSlip_1 (l : Launch) (D : va_G) (k : KT) (A : Nat → Prop) (a : Nat → Nat) (z : SK) (G : GS)  (hv_5_5 : G.2.2 5 5 = 1) : Met l yX7_readSlip (WS yX7_readSlip cX7_readSlip 3 (some .boolean)) ({ frames := 8, cells := 0, slots := 0, locals := 170 }) (va_Pc [.ref (a 5)] (cW D k A a z G)) (va_Qi (fun (r : Int32) (G1 : GS) => P_rSlip_1 G r G1) (fun (G1 : GS) t => Wd D k A a G1 t.heap) A) 0 0 A := by
  refine Met.ofW (cc := cX7_readSlip) (maxL := 3) (ret := (some .boolean)) (by decide) rfl ?_
  intro p e s m args below meth c s₁ B hml hv
  obtain ⟨rfl, hW, hB_G, hK, hZ⟩ := hv
  have hx := B.exec
  have hb := B.bytes
  have hr := B.returns
  have hts := atoms_spec (ws := WS yX7_readSlip cX7_readSlip 3 (some .boolean)) B.pre
  have hgd : ∀ w ∈ gd, w ∈ WS yX7_readSlip cX7_readSlip 3 (some .boolean) := fun w h => List.mem_cons_of_mem _ h
  have hg : ∀ w ∈ gd, w.before _ s = true := fun w h => hts w (hgd w h)
  have hown : s.vm.findClass RX7 = some m.cls := findClass_of_methodNamed B.named
  have hS : va_S A s.heap s.heap [] := va_S.rf
  have hF : Fr [16] [(3, 2), (3, 3), (3, 4), (3, 5), (3, 6), (3, 7), (3, 8), (5, 6), (5, 9)] G G := Fr.rf
  have hl := lv_entry ([.ref (a 5)]) (n := 3) (Nat.le_of_ble_eq_true rfl)
  rw [lg_entry_eq]
  generalize (lg_sl ([.ref (a 5)]) ++ List.replicate (3 - (lg_sl ([.ref (a 5)])).length) Slot.unset).toArray = ls at hl ⊢
  have hl : lv_has ls 3 [(0, .ref (a 5))] := hl
  refine lv_aload_n hx hb dX7_readSlip_0 rfl (lv_at hl 0 rfl) ?_
  refine lv_aload_n hx hb dX7_readSlip_1 rfl (lv_at hl 0 rfl) ?_
  have b_1 : 0 ≤ (G.1 5 6).toInt ∧ (G.1 5 6).toInt ≤ 1 := bd_5_6 hB_G
  refine S_getI (v := (G.1 5 6)) (C := RX7) (T := TX7) (N := 10) hx hb hg iX7 hown hK hW kd_5 rfl 6 (lt_b rfl) (hg (Cond.fieldLink RX7 48 "SlabWalk$Reader" "slipTold" "Z") m318) (fun _ h9 => h9) rfl rfl dX7_readSlip_2 ?_
  refine W.cut (σ := Int32) (pcJ := 13) (J := fun y H locs ls => ∃ (G_5 : GS), (0 ≤ y.toInt ∧ y.toInt ≤ 1) ∧ Jn_k_rSlip_1_1 G y G_5 ∧ Wd D k A a G_5 H ∧ Bd G_5 ∧ Fr [16] [(3, 2), (3, 3), (3, 4), (3, 5), (3, 6), (3, 7), (3, 8), (5, 6), (5, 9)] G G_5 ∧ Fr [] [] G G_5 ∧ va_S A s.heap H locs ∧ lv_has ls 3 [(0, .ref (a 5))]) (stJ := fun y => [.int y, .ref (a 5)]) ?_ (fun hJ_6 => ?_)
  · intro y H locs ls hI
    obtain ⟨w_3, hy⟩ : ∃ q, q = y := ⟨_, rfl⟩
    subst hy
    obtain ⟨G_5, f_9, hX_8, hW, hB_G_5, hF, hq_7, hS, hl⟩ := hI
    refine S_calli (va_runV (As := [.int w_3]) (rest := []) ⟨hx, hb, hml, hown, hts⟩ (k_rFirst l D k A a z G_5 w_3 ⟨(by first | exact f_9.1 | omega), (by first | exact f_9.2 | omega)⟩) (cwV 1 hts (gd_V hgd m773 m775 m9 m119 m776) rfl rfl rfl hd_X7_passFirst ⟨Nat.le_of_ble_eq_true rfl, Nat.le_of_ble_eq_true rfl⟩) (pre_W hW hB_G_5 hK hZ hS kd_5 rfl) rfl rfl hl.1 rfl (lv_room (Nat.le_of_ble_eq_true rfl)) dX7_readSlip_13 ⟨Nat.le_of_ble_eq_true rfl, Nat.le_of_ble_eq_true rfl⟩) hS (fun r_10 G_11 H locs hpo hW hS => ?_)
    have hX_14 : P_rFirst w_3 G_5 r_10 G_11 := hpo
    obtain ⟨hB_G_11, hq_12, f_15, hp_13, -⟩ := hpo
    have hF := hF.call9 hq_12 rfl rfl
    refine lv_if_ne (tgt := 21) hx hb dX7_readSlip_16 rfl (fun c_16 => ?_) (fun c_16 => ?_)
    · have c_16 : r_10.toInt ≠ 0 := xI_ne rfl rfl c_16
      refine lv_aload_n hx hb dX7_readSlip_21 rfl (lv_at hl 0 rfl) ?_
      refine ic_1 hx hb dX7_readSlip_22 ?_
      refine S_putI (ty := .boolean) (C := RX7) (T := TX7) (N := 10) hx hb hg iX7 tyX7 tyX7_ok nmX7 hown hK hW hS kd_5 rfl 6 (lt_b rfl) (hg (Cond.fieldLink RX7 48 "SlabWalk$Reader" "slipTold" "Z") m318) (fun _ h9 => h9) rfl (by decide +kernel) (by decide) rfl rfl dX7_readSlip_23 (fun G_17 H locs eG_17 hW hS => ?_)
      have hB_G_17 : Bd G_17 := hB_G_11.put (V := 1) (lo := 0) (hi := 1) eG_17 rfl rfl rfl (by decide) (by decide) (hB_G_11.2.put eG_17 rfl)
      have hF := hF.put eG_17 (Or.inr (by decide))
      refine ic_0 hx hb dX7_readSlip_26 ?_
      refine lv_istore_n (lv' := [(1, .int 0), (0, .ref (a 5))]) hx hb dX7_readSlip_27 rfl hl (lt_b rfl) rfl (fun ls hl => ?_)
      refine ic_0 hx hb dX7_readSlip_28 ?_
      refine lv_istore_n (lv' := [(2, .int 0), (1, .int 0), (0, .ref (a 5))]) hx hb dX7_readSlip_29 rfl hl (lt_b rfl) rfl (fun ls hl => ?_)
      have qc_25 : (0 : Int32).toInt = 0 := rfl
      refine loop_N (Inv := fun n H locs ls => ∃ (G_18 : GS) (x_22 : Int32) (x_23 : Int32), (n : Int) = 3 - x_22.toInt ∧ (0 ≤ x_22.toInt ∧ x_22.toInt ≤ 3) ∧ (0 ≤ x_23.toInt ∧ x_23.toInt ≤ 27) ∧ (x_23.toInt ≤ 9 * x_22.toInt) ∧ Rc (St_k_rSlip_1_2) (0, 0, G_17) (x_22, x_23, G_18) ∧ Wd D k A a G_18 H ∧ Bd G_18 ∧ Fr [16] [(3, 2), (3, 3), (3, 4), (3, 5), (3, 6), (3, 7), (3, 8), (5, 6), (5, 9)] G G_18 ∧ Fr [16] [(3, 2), (3, 3), (3, 4), (3, 5), (3, 6), (3, 7), (3, 8), (5, 9)] G_17 G_18 ∧ va_S A s.heap H locs ∧ lv_has ls 3 [(2, .int x_22), (1, .int x_23), (0, .ref (a 5))]) (fun n_21 H locs ls ih_20 hI => ?_) (3 - 0 : Int).toNat ⟨G_17, 0, 0, (Int.toNat_of_nonneg ((by decide))), ⟨(by decide), (by decide)⟩, ⟨(by decide), (by decide)⟩, ((by decide)), Rc.rf, hW, hB_G_17, hF, Fr.rf, hS, lv_sub hl [0, 1, 2] rfl⟩
      obtain ⟨G_18, x_22, x_23, hn_29, f_26, f_27, f_28, hX_24, hW, hB_G_18, hF, hq_19, hS, hl⟩ := hI
      refine lv_iload_n hx hb dX7_readSlip_30 rfl (lv_at hl 0 rfl) ?_
      refine ic_3 hx hb dX7_readSlip_31 ?_
      refine lv_icmp_ge (tgt := 86) hx hb dX7_readSlip_32 rfl (fun c_30 => ?_) (fun c_30 => ?_)
      · have c_30 : 3 ≤ x_22.toInt := xI_le rfl rfl c_30
        refine lv_aload_n hx hb dX7_readSlip_86 rfl (lv_at hl 2 rfl) ?_
        refine S_getR (n := 3) (C := RX7) (T := TX7) (N := 10) hx hb hg iX7 hown hK hW kd_5 rfl 0 (lt_b rfl) (hg (Cond.fieldLink RX7 26 "SlabWalk$Reader" "tokens" "LSlabWalk$Tokens;") m311) (fun _ h9 => h9) rfl dX7_readSlip_87 ?_
        refine lv_bipush (v := 59) hx hb dX7_readSlip_90 (by decide) ?_
        refine S_calli (va_runV (As := [.int 59]) (rest := []) ⟨hx, hb, hml, hown, hts⟩ (k_tPass l D k A a z G_18 59 ) (cwV 1 hts (gd_V hgd m786 m787 m788 m120 m789) rfl rfl rfl hd_X9_pass ⟨Nat.le_of_ble_eq_true rfl, Nat.le_of_ble_eq_true rfl⟩) (pre_W hW hB_G_18 hK hZ hS kd_3 rfl) rfl rfl hl.1 rfl (lv_room (Nat.le_of_ble_eq_true rfl)) dX7_readSlip_92 ⟨Nat.le_of_ble_eq_true rfl, Nat.le_of_ble_eq_true rfl⟩) hS (fun r_31 G_32 H locs hpo hW hS => ?_)
        have hX_35 : P_tPass 59 G_18 r_31 G_32 := hpo
        obtain ⟨hB_G_32, hq_33, f_36, -⟩ := hpo
        have hF := hF.call9 hq_33 rfl rfl
        exact W.zret (v := r_31) hx hb hr (nar_z ((by first | exact f_36.1 | omega)) ((by first | exact f_36.2 | omega))) (fun t ht _ => ⟨⟨r_31, G_32, rfl, (P_rSlip_1_mk ⟨hB_G_32, hF, ⟨(by first | exact f_36.1 | omega), (by first | exact f_36.2 | omega)⟩, ⟨w_3, G_5, hX_8, f_9, hB_G_5, hq_7, ⟨r_10, G_11, hX_14, (Or.inr ⟨c_16, ⟨G_17, hB_G_17, (Fr.put (rs := []) (fs := [(5, 6)]) Fr.rf eG_17 (Or.inr (by decide))), (gp_eq eG_17), ⟨x_22, x_23, G_18, hX_24, f_26, f_27, f_28, hB_G_18, hq_19, (Or.inl ⟨c_30, ⟨r_31, G_32, hX_35, ⟨rfl, rfl⟩⟩⟩)⟩⟩⟩)⟩⟩⟩), wd_t ht hW⟩, hS.F ht⟩) hS.2.2 dX7_readSlip_95
      · have c_30 : x_22.toInt < 3 := xI_nle rfl rfl c_30
        refine lv_aload_n hx hb dX7_readSlip_35 rfl (lv_at hl 2 rfl) ?_
        refine lv_iload_n hx hb dX7_readSlip_36 rfl (lv_at hl 0 rfl) ?_
        refine ic_2 hx hb dX7_readSlip_37 ?_
        refine W.cut (σ := Unit) (pcJ := 49) (J := fun y H locs ls => ∃ (G_41 : GS), Jn_k_rSlip_1_3 x_22 x_23 G_18 G_41 ∧ Wd D k A a G_41 H ∧ Bd G_41 ∧ Fr [16] [(3, 2), (3, 3), (3, 4), (3, 5), (3, 6), (3, 7), (3, 8), (5, 6), (5, 9)] G G_41 ∧ Fr [] [] G_18 G_41 ∧ va_S A s.heap H locs ∧ lv_has ls 3 [(2, .int x_22), (1, .int x_23), (0, .ref (a 5))]) (stJ := fun _ => [.ref (a 5)]) ?_ (fun hJ_42 => ?_)
        · intro y H locs ls hI
          obtain ⟨G_41, hX_44, hW, hB_G_41, hF, hq_43, hS, hl⟩ := hI
          refine ic_0 hx hb dX7_readSlip_49 ?_
          refine lv_bipush (v := 9) hx hb dX7_readSlip_50 (by decide) ?_
          have qc_45 : (0 : Int32).toInt = 0 := rfl
          have qc_46 : (9 : Int32).toInt = 9 := rfl
          refine S_calli (va_runV (As := [.int 0, .int 9]) (rest := []) ⟨hx, hb, hml, hown, hts⟩ (k_rNum l D k A a z G_41 0 9 ) (cwV 2 hts (gd_V hgd m791 m793 m11 m119 m794) rfl rfl rfl hd_X7_passNumber ⟨Nat.le_of_ble_eq_true rfl, Nat.le_of_ble_eq_true rfl⟩) (pre_W hW hB_G_41 hK hZ hS kd_5 rfl) rfl rfl hl.1 rfl (lv_room (Nat.le_of_ble_eq_true rfl)) dX7_readSlip_52 ⟨Nat.le_of_ble_eq_true rfl, Nat.le_of_ble_eq_true rfl⟩) hS (fun r_47 G_48 H locs hpo hW hS => ?_)
          have hX_51 : P_rNum 0 9 G_41 r_47 G_48 := hpo
          obtain ⟨hB_G_48, hq_49, f_52, hp_50, -⟩ := hpo
          have hF := hF.call9 hq_49 rfl rfl
          refine lv_if_ne (tgt := 60) hx hb dX7_readSlip_55 rfl (fun c_53 => ?_) (fun c_53 => ?_)
          · have c_53 : r_47.toInt ≠ 0 := xI_ne rfl rfl c_53
            refine lv_aload_n hx hb dX7_readSlip_60 rfl (lv_at hl 2 rfl) ?_
            refine S_getV (n := 1) (C := RX7) (T := TX7) (N := 10) hx hb hg iX7 hown hK hW kd_5 rfl 5 (lt_b rfl) (hg (Cond.fieldLink RX7 39 "SlabWalk$Reader" "paving" "LSlabWalk$Paving;") m317) (fun _ h9 => h9) rfl ((((hq_49.r9 5 5 rfl rfl).trans ((hq_43.r9 5 5 rfl rfl).trans ((hq_19.r9 5 5 rfl rfl).trans ((congrFun (congrFun (congrArg (fun q => q.2.2) eG_17) 5) 5).trans ((hq_12.r9 5 5 rfl rfl).trans (hq_7.r9 5 5 rfl rfl))))))).trans (hv_5_5)) dX7_readSlip_61 ?_
            refine S_getR (n := 16) (C := RX6) (T := TX6) (N := 17) hx hb hg iX6 hown hK hW kd_1 rfl 6 (lt_b rfl) (hg (Cond.fieldLink RX7 166 "SlabWalk$Paving" "slip" "[I") m179) (fun _ h9 => h9) rfl dX7_readSlip_64 ?_
            refine lv_iload_n hx hb dX7_readSlip_67 rfl (lv_at hl 0 rfl) ?_
            refine lv_aload_n hx hb dX7_readSlip_68 rfl (lv_at hl 2 rfl) ?_
            refine S_getI (v := (G_48.1 5 9)) (C := RX7) (T := TX7) (N := 10) hx hb hg iX7 hown hK hW kd_5 rfl 9 (lt_b rfl) (hg (Cond.fieldLink RX7 99 "SlabWalk$Reader" "number" "I") m321) (fun _ h9 => h9) rfl rfl dX7_readSlip_69 ?_
            refine S_iast hx hb hK hW hS kd_16 (vin ((by first | exact f_26.1 | omega)) ((by first | exact ok_390 c_30 | omega))) dX7_readSlip_72 (fun G_54 H locs eG_54 hW hS => ?_)
            have hB_G_54 : Bd G_54 := hB_G_48.put (V := (G_48.1 5 9).toInt) (lo := 0) (hi := 9) eG_54 rfl rfl rfl ((by first | exact ok_415 qc_25 f_52.1 f_52.2 hp_50 c_53 | omega)) ((by first | exact ok_416 qc_46 f_52.1 f_52.2 hp_50 c_53 | omega)) (hB_G_48.2.put eG_54 rfl)
            have hF := hF.put eG_54 (Or.inl (by decide))
            refine lv_iload_n hx hb dX7_readSlip_73 rfl (lv_at hl 1 rfl) ?_
            refine lv_aload_n hx hb dX7_readSlip_74 rfl (lv_at hl 2 rfl) ?_
            refine S_getI (v := (G_48.1 5 9)) (C := RX7) (T := TX7) (N := 10) hx hb hg iX7 hown hK hW kd_5 rfl 9 (lt_b rfl) (hg (Cond.fieldLink RX7 99 "SlabWalk$Reader" "number" "I") m321) (fun _ h9 => h9) rfl ((gp_ne eG_54 (fun q => absurd q.1 (Nat.ne_of_beq_eq_false rfl))).trans (rfl)) dX7_readSlip_75 ?_
            refine lv_iadd hx hb dX7_readSlip_78 ?_
            refine lv_topi (fun y_55 ey_55 => ?_)
            have ty_55 : y_55.toInt = x_23.toInt + (G_48.1 5 9).toInt := xI_add rfl rfl ey_55 ((by first | exact ok_437 qc_25 f_27.1 f_52.1 f_52.2 hp_50 c_53 | omega)) ((by first | exact ok_438 f_27.2 qc_46 f_52.1 f_52.2 hp_50 c_53 | omega))
            refine lv_istore_n (lv' := [(1, .int y_55), (2, .int x_22), (0, .ref (a 5))]) hx hb dX7_readSlip_79 rfl hl (lt_b rfl) rfl (fun ls hl => ?_)
            obtain ⟨y_56, ey_56⟩ : ∃ q, q = x_22 + 1 := ⟨_, rfl⟩
            have ty_56 : y_56.toInt = x_22.toInt + 1 := xI_add rfl rfl ey_56 ((by first | exact ok_439 f_27.1 f_28 | omega)) ((by first | exact ok_440 c_30 | omega))
            refine lv_iinc (v := y_56) (lv' := [(2, .int y_56), (1, .int y_55), (0, .ref (a 5))]) hx hb dX7_readSlip_80 hl (k := 1) rfl (by rw [ey_56]; rfl) (lt_b rfl) rfl (fun ls hl => ?_)
            refine lv_goto (tgt := 30) hx hb dX7_readSlip_83 rfl ?_
            exact ih_20 (3 - y_56.toInt : Int).toNat ((by first | (clear b_1 f_9 f_15 hp_13 c_16 f_52 c_53; omega) | omega)) _ _ _ ⟨G_54, y_56, y_55, (Int.toNat_of_nonneg ((by first | exact ok_441 c_30 ty_56 | omega))), ⟨(by first | exact ok_442 f_27.1 f_28 ty_56 | omega), (by first | exact ok_443 c_30 ty_56 | omega)⟩, ⟨(by first | exact ok_444 qc_25 f_27.1 f_52.1 f_52.2 hp_50 c_53 ty_55 | omega), (by first | exact ok_445 f_27.2 f_28 c_30 qc_46 f_52.1 f_52.2 hp_50 c_53 ty_55 | omega)⟩, ((by first | exact ok_446 f_28 qc_46 f_52.1 f_52.2 hp_50 c_53 ty_55 ty_56 | omega)), (hX_24.st (St_k_rSlip_1_2_mk ⟨x_22, x_23, G_18, y_56, y_55, G_54, rfl, rfl, f_26, f_27, f_28, hB_G_18, ⟨c_30, (Or.inr ⟨G_41, hX_44, hB_G_41, hq_43, ⟨r_47, G_48, hX_51, ⟨c_53, ⟨y_55, ty_55, ⟨y_56, ty_56, ⟨rfl, rfl, (Fr.put (rs := [16]) (fs := []) Fr.rf eG_54 (Or.inl (by decide))), rw_ast eG_54⟩⟩⟩⟩⟩⟩)⟩⟩)), hW, hB_G_54, hF, (Fr.put (rs := [16]) (fs := [(3, 2), (3, 3), (3, 4), (3, 5), (3, 6), (3, 7), (3, 8), (5, 9)]) (Fr.call9 (rs := [16]) (fs := [(3, 2), (3, 3), (3, 4), (3, 5), (3, 6), (3, 7), (3, 8), (5, 9)]) (Fr.call9 (rs := [16]) (fs := [(3, 2), (3, 3), (3, 4), (3, 5), (3, 6), (3, 7), (3, 8), (5, 9)]) (Fr.call9 (rs := [16]) (fs := [(3, 2), (3, 3), (3, 4), (3, 5), (3, 6), (3, 7), (3, 8), (5, 9)]) Fr.rf hq_19 rfl rfl) hq_43 rfl rfl) hq_49 rfl rfl) eG_54 (Or.inl (by decide))), hS, lv_sub hl [0, 1, 2] rfl⟩
          · have c_53 : r_47.toInt = 0 := xI_eq rfl rfl c_53
            refine ic_0 hx hb dX7_readSlip_58 ?_
            exact W.zret (v := 0) hx hb hr (by decide) (fun t ht _ => ⟨⟨0, G_48, rfl, (P_rSlip_1_mk ⟨hB_G_48, hF, ⟨by decide, by decide⟩, ⟨w_3, G_5, hX_8, f_9, hB_G_5, hq_7, ⟨r_10, G_11, hX_14, (Or.inr ⟨c_16, ⟨G_17, hB_G_17, (Fr.put (rs := []) (fs := [(5, 6)]) Fr.rf eG_17 (Or.inr (by decide))), (gp_eq eG_17), ⟨x_22, x_23, G_18, hX_24, f_26, f_27, f_28, hB_G_18, hq_19, (Or.inr ⟨c_30, (Or.inr ⟨G_41, hX_44, hB_G_41, hq_43, ⟨r_47, G_48, hX_51, ⟨c_53, ⟨rfl, rfl⟩⟩⟩⟩)⟩)⟩⟩⟩)⟩⟩⟩), wd_t ht hW⟩, hS.F ht⟩) hS.2.2 dX7_readSlip_59
        refine lv_icmp_ne (tgt := 49) hx hb dX7_readSlip_38 rfl (fun c_57 => ?_) (fun c_57 => ?_)
        · have c_57 : x_22.toInt ≠ 2 := xI_ne rfl rfl c_57
          exact hJ_42 () _ _ _ ⟨G_18, (Jn_k_rSlip_1_3_mk (Or.inr ⟨c_57, rfl⟩)), hW, hB_G_18, hF, (Fr.rf (rs := []) (fs := [])), hS, lv_sub hl [0, 1, 2] rfl⟩
        · have c_57 : x_22.toInt = 2 := xI_eq rfl rfl c_57
          refine lv_iload_n hx hb dX7_readSlip_41 rfl (lv_at hl 1 rfl) ?_
          refine lv_if_ne (tgt := 49) hx hb dX7_readSlip_42 rfl (fun c_58 => ?_) (fun c_58 => ?_)
          · have c_58 : x_23.toInt ≠ 0 := xI_ne rfl rfl c_58
            exact hJ_42 () _ _ _ ⟨G_18, (Jn_k_rSlip_1_3_mk (Or.inl ⟨c_57, ⟨c_58, rfl⟩⟩)), hW, hB_G_18, hF, (Fr.rf (rs := []) (fs := [])), hS, lv_sub hl [0, 1, 2] rfl⟩
          · have c_58 : x_23.toInt = 0 := xI_eq rfl rfl c_58
            refine ic_1 hx hb dX7_readSlip_45 ?_
            refine lv_goto (tgt := 50) hx hb dX7_readSlip_46 rfl ?_
            refine lv_bipush (v := 9) hx hb dX7_readSlip_50 (by decide) ?_
            have qc_59 : (1 : Int32).toInt = 1 := rfl
            have qc_60 : (9 : Int32).toInt = 9 := rfl
            refine S_calli (va_runV (As := [.int 1, .int 9]) (rest := []) ⟨hx, hb, hml, hown, hts⟩ (k_rNum l D k A a z G_18 1 9 ) (cwV 2 hts (gd_V hgd m791 m793 m11 m119 m794) rfl rfl rfl hd_X7_passNumber ⟨Nat.le_of_ble_eq_true rfl, Nat.le_of_ble_eq_true rfl⟩) (pre_W hW hB_G_18 hK hZ hS kd_5 rfl) rfl rfl hl.1 rfl (lv_room (Nat.le_of_ble_eq_true rfl)) dX7_readSlip_52 ⟨Nat.le_of_ble_eq_true rfl, Nat.le_of_ble_eq_true rfl⟩) hS (fun r_61 G_62 H locs hpo hW hS => ?_)
            have hX_65 : P_rNum 1 9 G_18 r_61 G_62 := hpo
            obtain ⟨hB_G_62, hq_63, f_66, hp_64, -⟩ := hpo
            have hF := hF.call9 hq_63 rfl rfl
            refine lv_if_ne (tgt := 60) hx hb dX7_readSlip_55 rfl (fun c_67 => ?_) (fun c_67 => ?_)
            · have c_67 : r_61.toInt ≠ 0 := xI_ne rfl rfl c_67
              refine lv_aload_n hx hb dX7_readSlip_60 rfl (lv_at hl 2 rfl) ?_
              refine S_getV (n := 1) (C := RX7) (T := TX7) (N := 10) hx hb hg iX7 hown hK hW kd_5 rfl 5 (lt_b rfl) (hg (Cond.fieldLink RX7 39 "SlabWalk$Reader" "paving" "LSlabWalk$Paving;") m317) (fun _ h9 => h9) rfl ((((hq_63.r9 5 5 rfl rfl).trans ((hq_19.r9 5 5 rfl rfl).trans ((congrFun (congrFun (congrArg (fun q => q.2.2) eG_17) 5) 5).trans ((hq_12.r9 5 5 rfl rfl).trans (hq_7.r9 5 5 rfl rfl)))))).trans (hv_5_5)) dX7_readSlip_61 ?_
              refine S_getR (n := 16) (C := RX6) (T := TX6) (N := 17) hx hb hg iX6 hown hK hW kd_1 rfl 6 (lt_b rfl) (hg (Cond.fieldLink RX7 166 "SlabWalk$Paving" "slip" "[I") m179) (fun _ h9 => h9) rfl dX7_readSlip_64 ?_
              refine lv_iload_n hx hb dX7_readSlip_67 rfl (lv_at hl 0 rfl) ?_
              refine lv_aload_n hx hb dX7_readSlip_68 rfl (lv_at hl 2 rfl) ?_
              refine S_getI (v := (G_62.1 5 9)) (C := RX7) (T := TX7) (N := 10) hx hb hg iX7 hown hK hW kd_5 rfl 9 (lt_b rfl) (hg (Cond.fieldLink RX7 99 "SlabWalk$Reader" "number" "I") m321) (fun _ h9 => h9) rfl rfl dX7_readSlip_69 ?_
              refine S_iast hx hb hK hW hS kd_16 (vin ((by first | exact f_26.1 | omega)) ((by first | exact ok_390 c_30 | omega))) dX7_readSlip_72 (fun G_68 H locs eG_68 hW hS => ?_)
              have hB_G_68 : Bd G_68 := hB_G_62.put (V := (G_62.1 5 9).toInt) (lo := 0) (hi := 9) eG_68 rfl rfl rfl ((by first | exact ok_405 qc_59 f_66.1 f_66.2 hp_64 c_67 | omega)) ((by first | exact ok_416 qc_60 f_66.1 f_66.2 hp_64 c_67 | omega)) (hB_G_62.2.put eG_68 rfl)
              have hF := hF.put eG_68 (Or.inl (by decide))
              refine lv_iload_n hx hb dX7_readSlip_73 rfl (lv_at hl 1 rfl) ?_
              refine lv_aload_n hx hb dX7_readSlip_74 rfl (lv_at hl 2 rfl) ?_
              refine S_getI (v := (G_62.1 5 9)) (C := RX7) (T := TX7) (N := 10) hx hb hg iX7 hown hK hW kd_5 rfl 9 (lt_b rfl) (hg (Cond.fieldLink RX7 99 "SlabWalk$Reader" "number" "I") m321) (fun _ h9 => h9) rfl ((gp_ne eG_68 (fun q => absurd q.1 (Nat.ne_of_beq_eq_false rfl))).trans (rfl)) dX7_readSlip_75 ?_
              refine lv_iadd hx hb dX7_readSlip_78 ?_
              refine lv_topi (fun y_69 ey_69 => ?_)
              have e_70 := tI_rng (G_62.1 5 9)
              have ty_69 : y_69.toInt = x_23.toInt + (G_62.1 5 9).toInt := xI_add rfl rfl ey_69 ((by first | exact ok_447 f_27.1 e_70.1 | omega)) ((by first | exact ok_448 c_58 e_70.2 | omega))
              refine lv_istore_n (lv' := [(1, .int y_69), (2, .int x_22), (0, .ref (a 5))]) hx hb dX7_readSlip_79 rfl hl (lt_b rfl) rfl (fun ls hl => ?_)
              obtain ⟨y_71, ey_71⟩ : ∃ q, q = x_22 + 1 := ⟨_, rfl⟩
              have ty_71 : y_71.toInt = x_22.toInt + 1 := xI_add rfl rfl ey_71 ((by first | exact ok_439 f_27.1 f_28 | omega)) ((by first | exact ok_440 c_30 | omega))
              refine lv_iinc (v := y_71) (lv' := [(2, .int y_71), (1, .int y_69), (0, .ref (a 5))]) hx hb dX7_readSlip_80 hl (k := 1) rfl (by rw [ey_71]; rfl) (lt_b rfl) rfl (fun ls hl => ?_)
              refine lv_goto (tgt := 30) hx hb dX7_readSlip_83 rfl ?_
              exact ih_20 (3 - y_71.toInt : Int).toNat ((by first | (clear b_1 f_9 f_15 hp_13 c_16 f_66 c_67; omega) | omega)) _ _ _ ⟨G_68, y_71, y_69, (Int.toNat_of_nonneg ((by first | exact ok_441 c_30 ty_71 | omega))), ⟨(by first | exact ok_442 f_27.1 f_28 ty_71 | omega), (by first | exact ok_443 c_30 ty_71 | omega)⟩, ⟨(by first | exact ok_449 f_27.1 qc_59 f_66.1 f_66.2 hp_64 c_67 ty_69 | omega), (by first | exact ok_450 c_58 qc_60 f_66.1 f_66.2 hp_64 c_67 ty_69 | omega)⟩, ((by first | exact ok_446 f_28 qc_60 f_66.1 f_66.2 hp_64 c_67 ty_69 ty_71 | omega)), (hX_24.st (St_k_rSlip_1_2_mk ⟨x_22, x_23, G_18, y_71, y_69, G_68, rfl, rfl, f_26, f_27, f_28, hB_G_18, ⟨c_30, (Or.inl ⟨c_57, ⟨c_58, ⟨r_61, G_62, hX_65, ⟨c_67, ⟨y_69, ty_69, ⟨y_71, ty_71, ⟨rfl, rfl, (Fr.put (rs := [16]) (fs := []) Fr.rf eG_68 (Or.inl (by decide))), rw_ast eG_68⟩⟩⟩⟩⟩⟩⟩)⟩⟩)), hW, hB_G_68, hF, (Fr.put (rs := [16]) (fs := [(3, 2), (3, 3), (3, 4), (3, 5), (3, 6), (3, 7), (3, 8), (5, 9)]) (Fr.call9 (rs := [16]) (fs := [(3, 2), (3, 3), (3, 4), (3, 5), (3, 6), (3, 7), (3, 8), (5, 9)]) (Fr.call9 (rs := [16]) (fs := [(3, 2), (3, 3), (3, 4), (3, 5), (3, 6), (3, 7), (3, 8), (5, 9)]) Fr.rf hq_19 rfl rfl) hq_63 rfl rfl) eG_68 (Or.inl (by decide))), hS, lv_sub hl [0, 1, 2] rfl⟩
            · have c_67 : r_61.toInt = 0 := xI_eq rfl rfl c_67
              refine ic_0 hx hb dX7_readSlip_58 ?_
              exact W.zret (v := 0) hx hb hr (by decide) (fun t ht _ => ⟨⟨0, G_62, rfl, (P_rSlip_1_mk ⟨hB_G_62, hF, ⟨by decide, by decide⟩, ⟨w_3, G_5, hX_8, f_9, hB_G_5, hq_7, ⟨r_10, G_11, hX_14, (Or.inr ⟨c_16, ⟨G_17, hB_G_17, (Fr.put (rs := []) (fs := [(5, 6)]) Fr.rf eG_17 (Or.inr (by decide))), (gp_eq eG_17), ⟨x_22, x_23, G_18, hX_24, f_26, f_27, f_28, hB_G_18, hq_19, (Or.inr ⟨c_30, (Or.inl ⟨c_57, ⟨c_58, ⟨r_61, G_62, hX_65, ⟨c_67, ⟨rfl, rfl⟩⟩⟩⟩⟩)⟩)⟩⟩⟩)⟩⟩⟩), wd_t ht hW⟩, hS.F ht⟩) hS.2.2 dX7_readSlip_59
    · have c_16 : r_10.toInt = 0 := xI_eq rfl rfl c_16
      refine ic_0 hx hb dX7_readSlip_19 ?_
      exact W.zret (v := 0) hx hb hr (by decide) (fun t ht _ => ⟨⟨0, G_11, rfl, (P_rSlip_1_mk ⟨hB_G_11, hF, ⟨by decide, by decide⟩, ⟨w_3, G_5, hX_8, f_9, hB_G_5, hq_7, ⟨r_10, G_11, hX_14, (Or.inl ⟨c_16, ⟨rfl, rfl⟩⟩)⟩⟩⟩), wd_t ht hW⟩, hS.F ht⟩) hS.2.2 dX7_readSlip_20
  refine lv_if_ne (tgt := 12) hx hb dX7_readSlip_5 rfl (fun c_72 => ?_) (fun c_72 => ?_)
  · have c_72 : (G.1 5 6).toInt ≠ 0 := xI_ne rfl rfl c_72
    refine ic_0 hx hb dX7_readSlip_12 ?_
    have qc_73 : (0 : Int32).toInt = 0 := rfl
    exact hJ_6 0 _ _ _ ⟨G, ⟨(by decide), (by decide)⟩, (Jn_k_rSlip_1_1_mk (Or.inr ⟨c_72, ⟨rfl, rfl⟩⟩)), hW, hB_G, hF, (Fr.rf (rs := []) (fs := [])), hS, lv_sub hl [0] rfl⟩
  · have c_72 : (G.1 5 6).toInt = 0 := xI_eq rfl rfl c_72
    refine ic_1 hx hb dX7_readSlip_8 ?_
    refine lv_goto (tgt := 13) hx hb dX7_readSlip_9 rfl ?_
    have qc_74 : (1 : Int32).toInt = 1 := rfl
    exact hJ_6 1 _ _ _ ⟨G, ⟨(by decide), (by decide)⟩, (Jn_k_rSlip_1_1_mk (Or.inl ⟨c_72, ⟨rfl, rfl⟩⟩)), hW, hB_G, hF, (Fr.rf (rs := []) (fs := [])), hS, lv_sub hl [0] rfl⟩

set_option maxHeartbeats 4000000 in
set_option maxRecDepth 100000 in
theorem k_rHand_1 (l : Launch) (D : va_G) (k : KT) (A : Nat → Prop) (a : Nat → Nat) (z : SK) (G : GS)  (hv_5_5 : G.2.2 5 5 = 1) : Met l yX7_readHand (WS yX7_readHand cX7_readHand 1 (some .boolean)) ({ frames := 8, cells := 0, slots := 0, locals := 170 }) (va_Pc [.ref (a 5)] (cW D k A a z G)) (va_Qi (fun (r : Int32) (G1 : GS) => P_rHand_1 G r G1) (fun (G1 : GS) t => Wd D k A a G1 t.heap) A) 0 0 A := by
  refine Met.ofW (cc := cX7_readHand) (maxL := 1) (ret := (some .boolean)) (by decide) rfl ?_
  intro p e s m args below meth c s₁ B hml hv
  obtain ⟨rfl, hW, hB_G, hK, hZ⟩ := hv
  have hx := B.exec
  have hb := B.bytes
  have hr := B.returns
  have hts := atoms_spec (ws := WS yX7_readHand cX7_readHand 1 (some .boolean)) B.pre
  have hgd : ∀ w ∈ gd, w ∈ WS yX7_readHand cX7_readHand 1 (some .boolean) := fun w h => List.mem_cons_of_mem _ h
  have hg : ∀ w ∈ gd, w.before _ s = true := fun w h => hts w (hgd w h)
  have hown : s.vm.findClass RX7 = some m.cls := findClass_of_methodNamed B.named
  have hS : va_S A s.heap s.heap [] := va_S.rf
  have hF : Fr [] [(1, 14), (1, 15), (3, 2), (3, 3), (3, 4), (3, 5), (3, 6), (3, 7), (3, 8), (5, 7), (5, 9)] G G := Fr.rf
  have hl := lv_entry ([.ref (a 5)]) (n := 1) (Nat.le_of_ble_eq_true rfl)
  rw [lg_entry_eq]
  generalize (lg_sl ([.ref (a 5)]) ++ List.replicate (1 - (lg_sl ([.ref (a 5)])).length) Slot.unset).toArray = ls at hl ⊢
  have hl : lv_has ls 1 [(0, .ref (a 5))] := hl
  refine lv_aload_n hx hb dX7_readHand_0 rfl (lv_at hl 0 rfl) ?_
  refine lv_aload_n hx hb dX7_readHand_1 rfl (lv_at hl 0 rfl) ?_
  have b_1 : 0 ≤ (G.1 5 7).toInt ∧ (G.1 5 7).toInt ≤ 1 := bd_5_7 hB_G
  refine S_getI (v := (G.1 5 7)) (C := RX7) (T := TX7) (N := 10) hx hb hg iX7 hown hK hW kd_5 rfl 7 (lt_b rfl) (hg (Cond.fieldLink RX7 52 "SlabWalk$Reader" "handTold" "Z") m319) (fun _ h9 => h9) rfl rfl dX7_readHand_2 ?_
  refine W.cut (σ := Int32) (pcJ := 13) (J := fun y H locs ls => ∃ (G_5 : GS), (0 ≤ y.toInt ∧ y.toInt ≤ 1) ∧ Jn_k_rHand_1_1 G y G_5 ∧ Wd D k A a G_5 H ∧ Bd G_5 ∧ Fr [] [(1, 14), (1, 15), (3, 2), (3, 3), (3, 4), (3, 5), (3, 6), (3, 7), (3, 8), (5, 7), (5, 9)] G G_5 ∧ Fr [] [] G G_5 ∧ va_S A s.heap H locs ∧ lv_has ls 1 [(0, .ref (a 5))]) (stJ := fun y => [.int y, .ref (a 5)]) ?_ (fun hJ_6 => ?_)
  · intro y H locs ls hI
    obtain ⟨w_3, hy⟩ : ∃ q, q = y := ⟨_, rfl⟩
    subst hy
    obtain ⟨G_5, f_9, hX_8, hW, hB_G_5, hF, hq_7, hS, hl⟩ := hI
    refine S_calli (va_runV (As := [.int w_3]) (rest := []) ⟨hx, hb, hml, hown, hts⟩ (k_rFirst l D k A a z G_5 w_3 ⟨(by first | exact f_9.1 | omega), (by first | exact f_9.2 | omega)⟩) (cwV 1 hts (gd_V hgd m773 m775 m9 m119 m776) rfl rfl rfl hd_X7_passFirst ⟨Nat.le_of_ble_eq_true rfl, Nat.le_of_ble_eq_true rfl⟩) (pre_W hW hB_G_5 hK hZ hS kd_5 rfl) rfl rfl hl.1 rfl (lv_room (Nat.le_of_ble_eq_true rfl)) dX7_readHand_13 ⟨Nat.le_of_ble_eq_true rfl, Nat.le_of_ble_eq_true rfl⟩) hS (fun r_10 G_11 H locs hpo hW hS => ?_)
    have hX_14 : P_rFirst w_3 G_5 r_10 G_11 := hpo
    obtain ⟨hB_G_11, hq_12, f_15, hp_13, -⟩ := hpo
    have hF := hF.call9 hq_12 rfl rfl
    refine lv_if_eq (tgt := 29) hx hb dX7_readHand_16 rfl (fun c_16 => ?_) (fun c_16 => ?_)
    · have c_16 : r_10.toInt = 0 := xI_eq rfl rfl c_16
      refine ic_0 hx hb dX7_readHand_29 ?_
      exact W.zret (v := 0) hx hb hr (by decide) (fun t ht _ => ⟨⟨0, G_11, rfl, (P_rHand_1_mk ⟨hB_G_11, hF, ⟨by decide, by decide⟩, ⟨w_3, G_5, hX_8, f_9, hB_G_5, hq_7, ⟨r_10, G_11, hX_14, (Or.inl ⟨c_16, ⟨rfl, rfl⟩⟩)⟩⟩⟩), wd_t ht hW⟩, hS.F ht⟩) hS.2.2 dX7_readHand_30
    · have c_16 : r_10.toInt ≠ 0 := xI_ne rfl rfl c_16
      refine lv_aload_n hx hb dX7_readHand_19 rfl (lv_at hl 0 rfl) ?_
      refine ic_1 hx hb dX7_readHand_20 ?_
      refine lv_bipush (v := 99) hx hb dX7_readHand_21 (by decide) ?_
      have qc_17 : (1 : Int32).toInt = 1 := rfl
      have qc_18 : (99 : Int32).toInt = 99 := rfl
      refine S_calli (va_runV (As := [.int 1, .int 99]) (rest := []) ⟨hx, hb, hml, hown, hts⟩ (k_rNum l D k A a z G_11 1 99 ) (cwV 2 hts (gd_V hgd m791 m793 m11 m119 m794) rfl rfl rfl hd_X7_passNumber ⟨Nat.le_of_ble_eq_true rfl, Nat.le_of_ble_eq_true rfl⟩) (pre_W hW hB_G_11 hK hZ hS kd_5 rfl) rfl rfl hl.1 rfl (lv_room (Nat.le_of_ble_eq_true rfl)) dX7_readHand_23 ⟨Nat.le_of_ble_eq_true rfl, Nat.le_of_ble_eq_true rfl⟩) hS (fun r_19 G_20 H locs hpo hW hS => ?_)
      have hX_23 : P_rNum 1 99 G_11 r_19 G_20 := hpo
      obtain ⟨hB_G_20, hq_21, f_24, hp_22, -⟩ := hpo
      have hF := hF.call9 hq_21 rfl rfl
      refine lv_if_ne (tgt := 31) hx hb dX7_readHand_26 rfl (fun c_25 => ?_) (fun c_25 => ?_)
      · have c_25 : r_19.toInt ≠ 0 := xI_ne rfl rfl c_25
        refine lv_aload_n hx hb dX7_readHand_31 rfl (lv_at hl 0 rfl) ?_
        refine ic_1 hx hb dX7_readHand_32 ?_
        refine S_putI (ty := .boolean) (C := RX7) (T := TX7) (N := 10) hx hb hg iX7 tyX7 tyX7_ok nmX7 hown hK hW hS kd_5 rfl 7 (lt_b rfl) (hg (Cond.fieldLink RX7 52 "SlabWalk$Reader" "handTold" "Z") m319) (fun _ h9 => h9) rfl (by decide +kernel) (by decide) rfl rfl dX7_readHand_33 (fun G_26 H locs eG_26 hW hS => ?_)
        have hB_G_26 : Bd G_26 := hB_G_20.put (V := 1) (lo := 0) (hi := 1) eG_26 rfl rfl rfl (by decide) (by decide) (hB_G_20.2.put eG_26 rfl)
        have hF := hF.put eG_26 (Or.inr (by decide))
        refine lv_aload_n hx hb dX7_readHand_36 rfl (lv_at hl 0 rfl) ?_
        refine S_getV (n := 1) (C := RX7) (T := TX7) (N := 10) hx hb hg iX7 hown hK hW kd_5 rfl 5 (lt_b rfl) (hg (Cond.fieldLink RX7 39 "SlabWalk$Reader" "paving" "LSlabWalk$Paving;") m317) (fun _ h9 => h9) rfl ((((congrFun (congrFun (congrArg (fun q => q.2.2) eG_26) 5) 5).trans ((hq_21.r9 5 5 rfl rfl).trans ((hq_12.r9 5 5 rfl rfl).trans (hq_7.r9 5 5 rfl rfl))))).trans (hv_5_5)) dX7_readHand_37 ?_
        refine lv_aload_n hx hb dX7_readHand_40 rfl (lv_at hl 0 rfl) ?_
        refine S_getI (v := (G_20.1 5 9)) (C := RX7) (T := TX7) (N := 10) hx hb hg iX7 hown hK hW kd_5 rfl 9 (lt_b rfl) (hg (Cond.fieldLink RX7 99 "SlabWalk$Reader" "number" "I") m321) (fun _ h9 => h9) rfl (gp_ne eG_26 (by decide)) dX7_readHand_41 ?_
        refine S_putI (ty := .int) (C := RX6) (T := TX6) (N := 17) hx hb hg iX6 tyX6 tyX6_ok nmX6 hown hK hW hS kd_1 rfl 14 (lt_b rfl) (hg (Cond.fieldLink RX7 169 "SlabWalk$Paving" "hand" "I") m202) (fun _ h9 => h9) rfl (by decide +kernel) rfl rfl rfl dX7_readHand_44 (fun G_27 H locs eG_27 hW hS => ?_)
        have hB_G_27 : Bd G_27 := hB_G_26.put (V := (G_20.1 5 9).toInt) (lo := 0) (hi := 99) eG_27 rfl rfl rfl ((by first | exact ok_405 qc_17 f_24.1 f_24.2 hp_22 c_25 | omega)) ((by first | exact ok_431 qc_18 f_24.1 f_24.2 hp_22 c_25 | omega)) (hB_G_26.2.put eG_27 rfl)
        have hF := hF.put eG_27 (Or.inr (by decide))
        refine lv_aload_n hx hb dX7_readHand_47 rfl (lv_at hl 0 rfl) ?_
        refine S_getR (n := 3) (C := RX7) (T := TX7) (N := 10) hx hb hg iX7 hown hK hW kd_5 rfl 0 (lt_b rfl) (hg (Cond.fieldLink RX7 26 "SlabWalk$Reader" "tokens" "LSlabWalk$Tokens;") m311) (fun _ h9 => h9) rfl dX7_readHand_48 ?_
        refine lv_sipush (v := 137) hx hb dX7_readHand_51 (by decide) ?_
        refine S_calli (va_runV (As := [.int 137]) (rest := []) ⟨hx, hb, hml, hown, hts⟩ (k_tPass l D k A a z G_27 137 ) (cwV 1 hts (gd_V hgd m786 m787 m788 m120 m789) rfl rfl rfl hd_X9_pass ⟨Nat.le_of_ble_eq_true rfl, Nat.le_of_ble_eq_true rfl⟩) (pre_W hW hB_G_27 hK hZ hS kd_3 rfl) rfl rfl hl.1 rfl (lv_room (Nat.le_of_ble_eq_true rfl)) dX7_readHand_54 ⟨Nat.le_of_ble_eq_true rfl, Nat.le_of_ble_eq_true rfl⟩) hS (fun r_28 G_29 H locs hpo hW hS => ?_)
        have hX_32 : P_tPass 137 G_27 r_28 G_29 := hpo
        obtain ⟨hB_G_29, hq_30, f_33, -⟩ := hpo
        have hF := hF.call9 hq_30 rfl rfl
        refine lv_if_eq (tgt := 70) hx hb dX7_readHand_57 rfl (fun c_34 => ?_) (fun c_34 => ?_)
        · have c_34 : r_28.toInt = 0 := xI_eq rfl rfl c_34
          refine ic_0 hx hb dX7_readHand_70 ?_
          exact W.zret (v := 0) hx hb hr (by decide) (fun t ht _ => ⟨⟨0, G_29, rfl, (P_rHand_1_mk ⟨hB_G_29, hF, ⟨by decide, by decide⟩, ⟨w_3, G_5, hX_8, f_9, hB_G_5, hq_7, ⟨r_10, G_11, hX_14, (Or.inr ⟨c_16, ⟨r_19, G_20, hX_23, (Or.inr ⟨c_25, ⟨G_27, hB_G_27, (Fr.put (rs := []) (fs := [(1, 14), (5, 7)]) (Fr.put (rs := []) (fs := [(1, 14), (5, 7)]) Fr.rf eG_26 (Or.inr (by decide))) eG_27 (Or.inr (by decide))), (gp_eq eG_27), ((gp_ne eG_27 (by decide)).trans (gp_eq eG_26)), ⟨r_28, G_29, hX_32, (Or.inl ⟨c_34, ⟨rfl, rfl⟩⟩)⟩⟩⟩)⟩⟩)⟩⟩⟩), wd_t ht hW⟩, hS.F ht⟩) hS.2.2 dX7_readHand_71
        · have c_34 : r_28.toInt ≠ 0 := xI_ne rfl rfl c_34
          refine lv_aload_n hx hb dX7_readHand_60 rfl (lv_at hl 0 rfl) ?_
          refine ic_0 hx hb dX7_readHand_61 ?_
          refine lv_bipush (v := 99) hx hb dX7_readHand_62 (by decide) ?_
          have qc_35 : (0 : Int32).toInt = 0 := rfl
          have qc_36 : (99 : Int32).toInt = 99 := rfl
          refine S_calli (va_runV (As := [.int 0, .int 99]) (rest := []) ⟨hx, hb, hml, hown, hts⟩ (k_rNum l D k A a z G_29 0 99 ) (cwV 2 hts (gd_V hgd m791 m793 m11 m119 m794) rfl rfl rfl hd_X7_passNumber ⟨Nat.le_of_ble_eq_true rfl, Nat.le_of_ble_eq_true rfl⟩) (pre_W hW hB_G_29 hK hZ hS kd_5 rfl) rfl rfl hl.1 rfl (lv_room (Nat.le_of_ble_eq_true rfl)) dX7_readHand_64 ⟨Nat.le_of_ble_eq_true rfl, Nat.le_of_ble_eq_true rfl⟩) hS (fun r_37 G_38 H locs hpo hW hS => ?_)
          have hX_41 : P_rNum 0 99 G_29 r_37 G_38 := hpo
          obtain ⟨hB_G_38, hq_39, f_42, hp_40, -⟩ := hpo
          have hF := hF.call9 hq_39 rfl rfl
          refine lv_if_ne (tgt := 72) hx hb dX7_readHand_67 rfl (fun c_43 => ?_) (fun c_43 => ?_)
          · have c_43 : r_37.toInt ≠ 0 := xI_ne rfl rfl c_43
            refine lv_aload_n hx hb dX7_readHand_72 rfl (lv_at hl 0 rfl) ?_
            refine S_getV (n := 1) (C := RX7) (T := TX7) (N := 10) hx hb hg iX7 hown hK hW kd_5 rfl 5 (lt_b rfl) (hg (Cond.fieldLink RX7 39 "SlabWalk$Reader" "paving" "LSlabWalk$Paving;") m317) (fun _ h9 => h9) rfl ((((hq_39.r9 5 5 rfl rfl).trans ((hq_30.r9 5 5 rfl rfl).trans ((congrFun (congrFun (congrArg (fun q => q.2.2) eG_27) 5) 5).trans ((congrFun (congrFun (congrArg (fun q => q.2.2) eG_26) 5) 5).trans ((hq_21.r9 5 5 rfl rfl).trans ((hq_12.r9 5 5 rfl rfl).trans (hq_7.r9 5 5 rfl rfl)))))))).trans (hv_5_5)) dX7_readHand_73 ?_
            refine lv_aload_n hx hb dX7_readHand_76 rfl (lv_at hl 0 rfl) ?_
            refine S_getI (v := (G_38.1 5 9)) (C := RX7) (T := TX7) (N := 10) hx hb hg iX7 hown hK hW kd_5 rfl 9 (lt_b rfl) (hg (Cond.fieldLink RX7 99 "SlabWalk$Reader" "number" "I") m321) (fun _ h9 => h9) rfl rfl dX7_readHand_77 ?_
            refine S_putI (ty := .int) (C := RX6) (T := TX6) (N := 17) hx hb hg iX6 tyX6 tyX6_ok nmX6 hown hK hW hS kd_1 rfl 15 (lt_b rfl) (hg (Cond.fieldLink RX7 172 "SlabWalk$Paving" "slack" "I") m205) (fun _ h9 => h9) rfl (by decide +kernel) rfl rfl rfl dX7_readHand_80 (fun G_44 H locs eG_44 hW hS => ?_)
            have hB_G_44 : Bd G_44 := hB_G_38.put (V := (G_38.1 5 9).toInt) (lo := 0) (hi := 99) eG_44 rfl rfl rfl ((by first | exact ok_415 qc_35 f_42.1 f_42.2 hp_40 c_43 | omega)) ((by first | exact ok_431 qc_18 f_42.1 f_42.2 hp_40 c_43 | omega)) (hB_G_38.2.put eG_44 rfl)
            have hF := hF.put eG_44 (Or.inr (by decide))
            refine lv_aload_n hx hb dX7_readHand_83 rfl (lv_at hl 0 rfl) ?_
            refine S_getR (n := 3) (C := RX7) (T := TX7) (N := 10) hx hb hg iX7 hown hK hW kd_5 rfl 0 (lt_b rfl) (hg (Cond.fieldLink RX7 26 "SlabWalk$Reader" "tokens" "LSlabWalk$Tokens;") m311) (fun _ h9 => h9) rfl dX7_readHand_84 ?_
            refine lv_bipush (v := 59) hx hb dX7_readHand_87 (by decide) ?_
            refine S_calli (va_runV (As := [.int 59]) (rest := []) ⟨hx, hb, hml, hown, hts⟩ (k_tPass l D k A a z G_44 59 ) (cwV 1 hts (gd_V hgd m786 m787 m788 m120 m789) rfl rfl rfl hd_X9_pass ⟨Nat.le_of_ble_eq_true rfl, Nat.le_of_ble_eq_true rfl⟩) (pre_W hW hB_G_44 hK hZ hS kd_3 rfl) rfl rfl hl.1 rfl (lv_room (Nat.le_of_ble_eq_true rfl)) dX7_readHand_89 ⟨Nat.le_of_ble_eq_true rfl, Nat.le_of_ble_eq_true rfl⟩) hS (fun r_45 G_46 H locs hpo hW hS => ?_)
            have hX_49 : P_tPass 59 G_44 r_45 G_46 := hpo
            obtain ⟨hB_G_46, hq_47, f_50, -⟩ := hpo
            have hF := hF.call9 hq_47 rfl rfl
            exact W.zret (v := r_45) hx hb hr (nar_z ((by first | exact f_50.1 | omega)) ((by first | exact f_50.2 | omega))) (fun t ht _ => ⟨⟨r_45, G_46, rfl, (P_rHand_1_mk ⟨hB_G_46, hF, ⟨(by first | exact f_50.1 | omega), (by first | exact f_50.2 | omega)⟩, ⟨w_3, G_5, hX_8, f_9, hB_G_5, hq_7, ⟨r_10, G_11, hX_14, (Or.inr ⟨c_16, ⟨r_19, G_20, hX_23, (Or.inr ⟨c_25, ⟨G_27, hB_G_27, (Fr.put (rs := []) (fs := [(1, 14), (5, 7)]) (Fr.put (rs := []) (fs := [(1, 14), (5, 7)]) Fr.rf eG_26 (Or.inr (by decide))) eG_27 (Or.inr (by decide))), (gp_eq eG_27), ((gp_ne eG_27 (by decide)).trans (gp_eq eG_26)), ⟨r_28, G_29, hX_32, (Or.inr ⟨c_34, ⟨r_37, G_38, hX_41, (Or.inr ⟨c_43, ⟨G_44, hB_G_44, (Fr.put (rs := []) (fs := [(1, 15)]) Fr.rf eG_44 (Or.inr (by decide))), (gp_eq eG_44), ⟨r_45, G_46, hX_49, ⟨rfl, rfl⟩⟩⟩⟩)⟩⟩)⟩⟩⟩)⟩⟩)⟩⟩⟩), wd_t ht hW⟩, hS.F ht⟩) hS.2.2 dX7_readHand_92
          · have c_43 : r_37.toInt = 0 := xI_eq rfl rfl c_43
            refine ic_0 hx hb dX7_readHand_70 ?_
            exact W.zret (v := 0) hx hb hr (by decide) (fun t ht _ => ⟨⟨0, G_38, rfl, (P_rHand_1_mk ⟨hB_G_38, hF, ⟨by decide, by decide⟩, ⟨w_3, G_5, hX_8, f_9, hB_G_5, hq_7, ⟨r_10, G_11, hX_14, (Or.inr ⟨c_16, ⟨r_19, G_20, hX_23, (Or.inr ⟨c_25, ⟨G_27, hB_G_27, (Fr.put (rs := []) (fs := [(1, 14), (5, 7)]) (Fr.put (rs := []) (fs := [(1, 14), (5, 7)]) Fr.rf eG_26 (Or.inr (by decide))) eG_27 (Or.inr (by decide))), (gp_eq eG_27), ((gp_ne eG_27 (by decide)).trans (gp_eq eG_26)), ⟨r_28, G_29, hX_32, (Or.inr ⟨c_34, ⟨r_37, G_38, hX_41, (Or.inl ⟨c_43, ⟨rfl, rfl⟩⟩)⟩⟩)⟩⟩⟩)⟩⟩)⟩⟩⟩), wd_t ht hW⟩, hS.F ht⟩) hS.2.2 dX7_readHand_71
      · have c_25 : r_19.toInt = 0 := xI_eq rfl rfl c_25
        refine ic_0 hx hb dX7_readHand_29 ?_
        exact W.zret (v := 0) hx hb hr (by decide) (fun t ht _ => ⟨⟨0, G_20, rfl, (P_rHand_1_mk ⟨hB_G_20, hF, ⟨by decide, by decide⟩, ⟨w_3, G_5, hX_8, f_9, hB_G_5, hq_7, ⟨r_10, G_11, hX_14, (Or.inr ⟨c_16, ⟨r_19, G_20, hX_23, (Or.inl ⟨c_25, ⟨rfl, rfl⟩⟩)⟩⟩)⟩⟩⟩), wd_t ht hW⟩, hS.F ht⟩) hS.2.2 dX7_readHand_30
  refine lv_if_ne (tgt := 12) hx hb dX7_readHand_5 rfl (fun c_51 => ?_) (fun c_51 => ?_)
  · have c_51 : (G.1 5 7).toInt ≠ 0 := xI_ne rfl rfl c_51
    refine ic_0 hx hb dX7_readHand_12 ?_
    have qc_52 : (0 : Int32).toInt = 0 := rfl
    exact hJ_6 0 _ _ _ ⟨G, ⟨(by decide), (by decide)⟩, (Jn_k_rHand_1_1_mk (Or.inr ⟨c_51, ⟨rfl, rfl⟩⟩)), hW, hB_G, hF, (Fr.rf (rs := []) (fs := [])), hS, lv_sub hl [0] rfl⟩
  · have c_51 : (G.1 5 7).toInt = 0 := xI_eq rfl rfl c_51
    refine ic_1 hx hb dX7_readHand_8 ?_
    refine lv_goto (tgt := 13) hx hb dX7_readHand_9 rfl ?_
    have qc_53 : (1 : Int32).toInt = 1 := rfl
    exact hJ_6 1 _ _ _ ⟨G, ⟨(by decide), (by decide)⟩, (Jn_k_rHand_1_1_mk (Or.inl ⟨c_51, ⟨rfl, rfl⟩⟩)), hW, hB_G, hF, (Fr.rf (rs := []) (fs := [])), hS, lv_sub hl [0] rfl⟩

theorem m8 : Cond.selects RX7 yX7_readStreet yX7_readStreet ∈ gd := gds_1 8 rfl
theorem m14 : Cond.selects RX7 yX7_readWalker yX7_readWalker ∈ gd := gds_1 14 rfl
theorem m15 : Cond.selects RX7 yX7_readRule yX7_readRule ∈ gd := gds_1 15 rfl
theorem m24 : Cond.selects RX7 yX7_readSlip yX7_readSlip ∈ gd := gds_2 8 rfl
theorem m25 : Cond.selects RX7 yX7_readHand yX7_readHand ∈ gd := gds_2 9 rfl
theorem m26 : Cond.selects RX7 yX7_readDraw yX7_readDraw ∈ gd := gds_2 10 rfl
theorem m153 : Cond.instanceMethod yX6_empty ∈ gd := gdc_1_2 5 rfl gw_instanceMethod
theorem m154 : Cond.selects RX6 yX6_empty yX6_empty ∈ gd := gdc_1_2 6 rfl gw_selects
theorem m155 : Cond.code yX6_empty cX6_empty 1 none ∈ gd := gdc_1_2 7 rfl gw_code
theorem m208 : Cond.fieldLink RX7 175 "SlabWalk$Paving" "draw" "I" ∈ gd := gdc_1_5 12 rfl gw_fieldLink
theorem m320 : Cond.fieldLink RX7 55 "SlabWalk$Reader" "drawTold" "Z" ∈ gd := gdc_1_12 12 rfl gw_fieldLink
theorem m630 : Cond.methodLink RX7 43 yX6_empty ∈ gd := gdc_3_2 2 rfl gw_methodLink
theorem m631 : Cond.methodLink RX7 58 yX9_open ∈ gd := gdc_3_2 3 rfl gw_methodLink
theorem m632 : Cond.instanceMethod yX9_open ∈ gd := gdc_3_2 4 rfl gw_instanceMethod
theorem m633 : Cond.selects RX9 yX9_open yX9_open ∈ gd := gdc_3_2 5 rfl gw_selects
theorem m634 : Cond.code yX9_open cX9_open 2 none ∈ gd := gdc_3_2 6 rfl gw_code
theorem m769 : Cond.methodLink RX7 66 yX7_readStreet ∈ gd := gdc_3_10 13 rfl gw_methodLink
theorem m771 : Cond.instanceMethod yX7_readStreet ∈ gd := gdc_3_10 15 rfl gw_instanceMethod
theorem m772 : Cond.code yX7_readStreet cX7_readStreet 3 (some .boolean) ∈ gd := gdc_3_11 0 rfl gw_code
theorem m809 : Cond.methodLink RX7 70 yX7_readWalker ∈ gd := gdc_3_13 5 rfl gw_methodLink
theorem m811 : Cond.instanceMethod yX7_readWalker ∈ gd := gdc_3_13 7 rfl gw_instanceMethod
theorem m812 : Cond.code yX7_readWalker cX7_readWalker 2 (some .boolean) ∈ gd := gdc_3_13 8 rfl gw_code
theorem m813 : Cond.methodLink RX7 73 yX7_readRule ∈ gd := gdc_3_13 9 rfl gw_methodLink
theorem m815 : Cond.instanceMethod yX7_readRule ∈ gd := gdc_3_13 11 rfl gw_instanceMethod
theorem m816 : Cond.code yX7_readRule cX7_readRule 1 (some .boolean) ∈ gd := gdc_3_13 12 rfl gw_code
theorem m862 : Cond.methodLink RX7 76 yX7_readSlip ∈ gd := gdc_4_1 10 rfl gw_methodLink
theorem m864 : Cond.instanceMethod yX7_readSlip ∈ gd := gdc_4_1 12 rfl gw_instanceMethod
theorem m865 : Cond.code yX7_readSlip cX7_readSlip 3 (some .boolean) ∈ gd := gdc_4_1 13 rfl gw_code
theorem m866 : Cond.methodLink RX7 79 yX7_readHand ∈ gd := gdc_4_1 14 rfl gw_methodLink
theorem m868 : Cond.instanceMethod yX7_readHand ∈ gd := gdc_4_2 0 rfl gw_instanceMethod
theorem m869 : Cond.code yX7_readHand cX7_readHand 1 (some .boolean) ∈ gd := gdc_4_2 1 rfl gw_code
theorem m870 : Cond.methodLink RX7 82 yX7_readDraw ∈ gd := gdc_4_2 2 rfl gw_methodLink
theorem m872 : Cond.instanceMethod yX7_readDraw ∈ gd := gdc_4_2 4 rfl gw_instanceMethod
theorem m873 : Cond.code yX7_readDraw cX7_readDraw 1 (some .boolean) ∈ gd := gdc_4_2 5 rfl gw_code
theorem dX7_read_72 : decode cX7_read 72 = .ok (.tableswitch 108 128 138 #[60, 68, 108, 108, 108, 108, 76, 84, 92, 108, 100], 60) := dq_of (by decide +kernel)
noncomputable def rbX7_read_0 : List (Nat × List Nat) := [(0, [42]), (1, [44]), (2, [181, 0, 39]), (5, [42]), (6, [180, 0, 39]), (9, [182, 0, 43]), (12, [42]), (13, [3]), (14, [181, 0, 48]), (17, [42]), (18, [3]), (19, [181, 0, 52]), (22, [42]), (23, [3]), (24, [181, 0, 55]), (27, [42]), (28, [180, 0, 26]), (31, [27]), (32, [182, 0, 58]), (35, [4]), (36, [62]), (37, [3]), (38, [54, 4]), (40, [29])]
theorem rcX7_read_0 : dgo (lb cX7_read) 0 rbX7_read_0 = true := by decide +kernel
theorem dX7_read_0 : decode cX7_read 0 = .ok (.aload_n 0, 1) := dk_42 (dw rcX7_read_0 0 rfl)
theorem dX7_read_1 : decode cX7_read 1 = .ok (.aload_n 2, 1) := dk_44 (dw rcX7_read_0 1 rfl)
theorem dX7_read_2 : decode cX7_read 2 = .ok (.putfield 39, 3) := dk_181 (dw rcX7_read_0 2 rfl) rfl
theorem dX7_read_5 : decode cX7_read 5 = .ok (.aload_n 0, 1) := dk_42 (dw rcX7_read_0 3 rfl)
theorem dX7_read_6 : decode cX7_read 6 = .ok (.getfield 39, 3) := dk_180 (dw rcX7_read_0 4 rfl) rfl
theorem dX7_read_9 : decode cX7_read 9 = .ok (.invokevirtual 43, 3) := dk_182 (dw rcX7_read_0 5 rfl) rfl
theorem dX7_read_12 : decode cX7_read 12 = .ok (.aload_n 0, 1) := dk_42 (dw rcX7_read_0 6 rfl)
theorem dX7_read_13 : decode cX7_read 13 = .ok (.iconst 0, 1) := dk_3 (dw rcX7_read_0 7 rfl)
theorem dX7_read_14 : decode cX7_read 14 = .ok (.putfield 48, 3) := dk_181 (dw rcX7_read_0 8 rfl) rfl
theorem dX7_read_17 : decode cX7_read 17 = .ok (.aload_n 0, 1) := dk_42 (dw rcX7_read_0 9 rfl)
theorem dX7_read_18 : decode cX7_read 18 = .ok (.iconst 0, 1) := dk_3 (dw rcX7_read_0 10 rfl)
theorem dX7_read_19 : decode cX7_read 19 = .ok (.putfield 52, 3) := dk_181 (dw rcX7_read_0 11 rfl) rfl
theorem dX7_read_22 : decode cX7_read 22 = .ok (.aload_n 0, 1) := dk_42 (dw rcX7_read_0 12 rfl)
theorem dX7_read_23 : decode cX7_read 23 = .ok (.iconst 0, 1) := dk_3 (dw rcX7_read_0 13 rfl)
theorem dX7_read_24 : decode cX7_read 24 = .ok (.putfield 55, 3) := dk_181 (dw rcX7_read_0 14 rfl) rfl
theorem dX7_read_27 : decode cX7_read 27 = .ok (.aload_n 0, 1) := dk_42 (dw rcX7_read_0 15 rfl)
theorem dX7_read_28 : decode cX7_read 28 = .ok (.getfield 26, 3) := dk_180 (dw rcX7_read_0 16 rfl) rfl
theorem dX7_read_31 : decode cX7_read 31 = .ok (.iload_n 1, 1) := dk_27 (dw rcX7_read_0 17 rfl)
theorem dX7_read_32 : decode cX7_read 32 = .ok (.invokevirtual 58, 3) := dk_182 (dw rcX7_read_0 18 rfl) rfl
theorem dX7_read_35 : decode cX7_read 35 = .ok (.iconst 1, 1) := dk_4 (dw rcX7_read_0 19 rfl)
theorem dX7_read_36 : decode cX7_read 36 = .ok (.istore_n 3, 1) := dk_62 (dw rcX7_read_0 20 rfl)
theorem dX7_read_37 : decode cX7_read 37 = .ok (.iconst 0, 1) := dk_3 (dw rcX7_read_0 21 rfl)
theorem dX7_read_38 : decode cX7_read 38 = .ok (.istore 4, 2) := dk_54 (dw rcX7_read_0 22 rfl)
theorem dX7_read_40 : decode cX7_read 40 = .ok (.iload_n 3, 1) := dk_29 (dw rcX7_read_0 23 rfl)
noncomputable def rbX7_read_41 : List (Nat × List Nat) := [(41, [153, 0, 154]), (44, [21, 4]), (46, [17, 6, 64]), (49, [162, 0, 146]), (52, [42]), (53, [180, 0, 26]), (56, [180, 0, 62]), (59, [17, 0, 203]), (62, [159, 0, 133]), (65, [42]), (66, [180, 0, 26]), (69, [180, 0, 62]), (132, [42]), (133, [182, 0, 66]), (136, [62]), (137, [167, 0, 52]), (140, [42]), (141, [182, 0, 70]), (144, [62]), (145, [167, 0, 44]), (148, [42]), (149, [182, 0, 73]), (152, [62]), (153, [167, 0, 36])]
theorem rcX7_read_41 : dgo (lb cX7_read) 0 rbX7_read_41 = true := by decide +kernel
theorem dX7_read_41 : decode cX7_read 41 = .ok (.ifCond .eq 154, 3) := dk_153 (dw rcX7_read_41 0 rfl) rfl
theorem dX7_read_44 : decode cX7_read 44 = .ok (.iload 4, 2) := dk_21 (dw rcX7_read_41 1 rfl)
theorem dX7_read_46 : decode cX7_read 46 = .ok (.sipush 1600, 3) := dk_17 (dw rcX7_read_41 2 rfl) rfl
theorem dX7_read_49 : decode cX7_read 49 = .ok (.if_icmp .ge 146, 3) := dk_162 (dw rcX7_read_41 3 rfl) rfl
theorem dX7_read_52 : decode cX7_read 52 = .ok (.aload_n 0, 1) := dk_42 (dw rcX7_read_41 4 rfl)
theorem dX7_read_53 : decode cX7_read 53 = .ok (.getfield 26, 3) := dk_180 (dw rcX7_read_41 5 rfl) rfl
theorem dX7_read_56 : decode cX7_read 56 = .ok (.getfield 62, 3) := dk_180 (dw rcX7_read_41 6 rfl) rfl
theorem dX7_read_59 : decode cX7_read 59 = .ok (.sipush 203, 3) := dk_17 (dw rcX7_read_41 7 rfl) rfl
theorem dX7_read_62 : decode cX7_read 62 = .ok (.if_icmp .eq 133, 3) := dk_159 (dw rcX7_read_41 8 rfl) rfl
theorem dX7_read_65 : decode cX7_read 65 = .ok (.aload_n 0, 1) := dk_42 (dw rcX7_read_41 9 rfl)
theorem dX7_read_66 : decode cX7_read 66 = .ok (.getfield 26, 3) := dk_180 (dw rcX7_read_41 10 rfl) rfl
theorem dX7_read_69 : decode cX7_read 69 = .ok (.getfield 62, 3) := dk_180 (dw rcX7_read_41 11 rfl) rfl
theorem dX7_read_132 : decode cX7_read 132 = .ok (.aload_n 0, 1) := dk_42 (dw rcX7_read_41 12 rfl)
theorem dX7_read_133 : decode cX7_read 133 = .ok (.invokevirtual 66, 3) := dk_182 (dw rcX7_read_41 13 rfl) rfl
theorem dX7_read_136 : decode cX7_read 136 = .ok (.istore_n 3, 1) := dk_62 (dw rcX7_read_41 14 rfl)
theorem dX7_read_137 : decode cX7_read 137 = .ok (.goto 52, 3) := dk_167 (dw rcX7_read_41 15 rfl) rfl
theorem dX7_read_140 : decode cX7_read 140 = .ok (.aload_n 0, 1) := dk_42 (dw rcX7_read_41 16 rfl)
theorem dX7_read_141 : decode cX7_read 141 = .ok (.invokevirtual 70, 3) := dk_182 (dw rcX7_read_41 17 rfl) rfl
theorem dX7_read_144 : decode cX7_read 144 = .ok (.istore_n 3, 1) := dk_62 (dw rcX7_read_41 18 rfl)
theorem dX7_read_145 : decode cX7_read 145 = .ok (.goto 44, 3) := dk_167 (dw rcX7_read_41 19 rfl) rfl
theorem dX7_read_148 : decode cX7_read 148 = .ok (.aload_n 0, 1) := dk_42 (dw rcX7_read_41 20 rfl)
theorem dX7_read_149 : decode cX7_read 149 = .ok (.invokevirtual 73, 3) := dk_182 (dw rcX7_read_41 21 rfl) rfl
theorem dX7_read_152 : decode cX7_read 152 = .ok (.istore_n 3, 1) := dk_62 (dw rcX7_read_41 22 rfl)
theorem dX7_read_153 : decode cX7_read 153 = .ok (.goto 36, 3) := dk_167 (dw rcX7_read_41 23 rfl) rfl
noncomputable def rbX7_read_156 : List (Nat × List Nat) := [(156, [42]), (157, [182, 0, 76]), (160, [62]), (161, [167, 0, 28]), (164, [42]), (165, [182, 0, 79]), (168, [62]), (169, [167, 0, 20]), (172, [42]), (173, [182, 0, 82]), (176, [62]), (177, [167, 0, 12]), (180, [42]), (181, [180, 0, 26]), (184, [5]), (185, [182, 0, 85]), (188, [62]), (189, [132, 4, 1]), (192, [167, 255, 104]), (195, [29]), (196, [172])]
theorem rcX7_read_156 : dgo (lb cX7_read) 0 rbX7_read_156 = true := by decide +kernel
theorem dX7_read_156 : decode cX7_read 156 = .ok (.aload_n 0, 1) := dk_42 (dw rcX7_read_156 0 rfl)
theorem dX7_read_157 : decode cX7_read 157 = .ok (.invokevirtual 76, 3) := dk_182 (dw rcX7_read_156 1 rfl) rfl
theorem dX7_read_160 : decode cX7_read 160 = .ok (.istore_n 3, 1) := dk_62 (dw rcX7_read_156 2 rfl)
theorem dX7_read_161 : decode cX7_read 161 = .ok (.goto 28, 3) := dk_167 (dw rcX7_read_156 3 rfl) rfl
theorem dX7_read_164 : decode cX7_read 164 = .ok (.aload_n 0, 1) := dk_42 (dw rcX7_read_156 4 rfl)
theorem dX7_read_165 : decode cX7_read 165 = .ok (.invokevirtual 79, 3) := dk_182 (dw rcX7_read_156 5 rfl) rfl
theorem dX7_read_168 : decode cX7_read 168 = .ok (.istore_n 3, 1) := dk_62 (dw rcX7_read_156 6 rfl)
theorem dX7_read_169 : decode cX7_read 169 = .ok (.goto 20, 3) := dk_167 (dw rcX7_read_156 7 rfl) rfl
theorem dX7_read_172 : decode cX7_read 172 = .ok (.aload_n 0, 1) := dk_42 (dw rcX7_read_156 8 rfl)
theorem dX7_read_173 : decode cX7_read 173 = .ok (.invokevirtual 82, 3) := dk_182 (dw rcX7_read_156 9 rfl) rfl
theorem dX7_read_176 : decode cX7_read 176 = .ok (.istore_n 3, 1) := dk_62 (dw rcX7_read_156 10 rfl)
theorem dX7_read_177 : decode cX7_read 177 = .ok (.goto 12, 3) := dk_167 (dw rcX7_read_156 11 rfl) rfl
theorem dX7_read_180 : decode cX7_read 180 = .ok (.aload_n 0, 1) := dk_42 (dw rcX7_read_156 12 rfl)
theorem dX7_read_181 : decode cX7_read 181 = .ok (.getfield 26, 3) := dk_180 (dw rcX7_read_156 13 rfl) rfl
theorem dX7_read_184 : decode cX7_read 184 = .ok (.iconst 2, 1) := dk_5 (dw rcX7_read_156 14 rfl)
theorem dX7_read_185 : decode cX7_read 185 = .ok (.invokevirtual 85, 3) := dk_182 (dw rcX7_read_156 15 rfl) rfl
theorem dX7_read_188 : decode cX7_read 188 = .ok (.istore_n 3, 1) := dk_62 (dw rcX7_read_156 16 rfl)
theorem dX7_read_189 : decode cX7_read 189 = .ok (.iinc 4 1, 3) := dk_132 (dw rcX7_read_156 17 rfl) rfl
theorem dX7_read_192 : decode cX7_read 192 = .ok (.goto (-152), 3) := dk_167 (dw rcX7_read_156 18 rfl) rfl
theorem dX7_read_195 : decode cX7_read 195 = .ok (.iload_n 3, 1) := dk_29 (dw rcX7_read_156 19 rfl)
theorem dX7_read_196 : decode cX7_read 196 = .ok (.ireturn, 1) := dk_172 (dw rcX7_read_156 20 rfl)
noncomputable def rbX7_readDraw_0 : List (Nat × List Nat) := [(0, [42]), (1, [42]), (2, [180, 0, 55]), (5, [154, 0, 7]), (8, [4]), (9, [167, 0, 4]), (12, [3]), (13, [182, 0, 107]), (16, [153, 0, 14]), (19, [42]), (20, [3]), (21, [17, 3, 231]), (24, [182, 0, 118]), (27, [154, 0, 5]), (30, [3]), (31, [172]), (32, [42]), (33, [4]), (34, [181, 0, 55]), (37, [42]), (38, [180, 0, 39]), (41, [42]), (42, [180, 0, 99]), (45, [181, 0, 175])]
theorem rcX7_readDraw_0 : dgo (lb cX7_readDraw) 0 rbX7_readDraw_0 = true := by decide +kernel
theorem dX7_readDraw_0 : decode cX7_readDraw 0 = .ok (.aload_n 0, 1) := dk_42 (dw rcX7_readDraw_0 0 rfl)
theorem dX7_readDraw_1 : decode cX7_readDraw 1 = .ok (.aload_n 0, 1) := dk_42 (dw rcX7_readDraw_0 1 rfl)
theorem dX7_readDraw_2 : decode cX7_readDraw 2 = .ok (.getfield 55, 3) := dk_180 (dw rcX7_readDraw_0 2 rfl) rfl
theorem dX7_readDraw_5 : decode cX7_readDraw 5 = .ok (.ifCond .ne 7, 3) := dk_154 (dw rcX7_readDraw_0 3 rfl) rfl
theorem dX7_readDraw_8 : decode cX7_readDraw 8 = .ok (.iconst 1, 1) := dk_4 (dw rcX7_readDraw_0 4 rfl)
theorem dX7_readDraw_9 : decode cX7_readDraw 9 = .ok (.goto 4, 3) := dk_167 (dw rcX7_readDraw_0 5 rfl) rfl
theorem dX7_readDraw_12 : decode cX7_readDraw 12 = .ok (.iconst 0, 1) := dk_3 (dw rcX7_readDraw_0 6 rfl)
theorem dX7_readDraw_13 : decode cX7_readDraw 13 = .ok (.invokevirtual 107, 3) := dk_182 (dw rcX7_readDraw_0 7 rfl) rfl
theorem dX7_readDraw_16 : decode cX7_readDraw 16 = .ok (.ifCond .eq 14, 3) := dk_153 (dw rcX7_readDraw_0 8 rfl) rfl
theorem dX7_readDraw_19 : decode cX7_readDraw 19 = .ok (.aload_n 0, 1) := dk_42 (dw rcX7_readDraw_0 9 rfl)
theorem dX7_readDraw_20 : decode cX7_readDraw 20 = .ok (.iconst 0, 1) := dk_3 (dw rcX7_readDraw_0 10 rfl)
theorem dX7_readDraw_21 : decode cX7_readDraw 21 = .ok (.sipush 999, 3) := dk_17 (dw rcX7_readDraw_0 11 rfl) rfl
theorem dX7_readDraw_24 : decode cX7_readDraw 24 = .ok (.invokevirtual 118, 3) := dk_182 (dw rcX7_readDraw_0 12 rfl) rfl
theorem dX7_readDraw_27 : decode cX7_readDraw 27 = .ok (.ifCond .ne 5, 3) := dk_154 (dw rcX7_readDraw_0 13 rfl) rfl
theorem dX7_readDraw_30 : decode cX7_readDraw 30 = .ok (.iconst 0, 1) := dk_3 (dw rcX7_readDraw_0 14 rfl)
theorem dX7_readDraw_31 : decode cX7_readDraw 31 = .ok (.ireturn, 1) := dk_172 (dw rcX7_readDraw_0 15 rfl)
theorem dX7_readDraw_32 : decode cX7_readDraw 32 = .ok (.aload_n 0, 1) := dk_42 (dw rcX7_readDraw_0 16 rfl)
theorem dX7_readDraw_33 : decode cX7_readDraw 33 = .ok (.iconst 1, 1) := dk_4 (dw rcX7_readDraw_0 17 rfl)
theorem dX7_readDraw_34 : decode cX7_readDraw 34 = .ok (.putfield 55, 3) := dk_181 (dw rcX7_readDraw_0 18 rfl) rfl
theorem dX7_readDraw_37 : decode cX7_readDraw 37 = .ok (.aload_n 0, 1) := dk_42 (dw rcX7_readDraw_0 19 rfl)
theorem dX7_readDraw_38 : decode cX7_readDraw 38 = .ok (.getfield 39, 3) := dk_180 (dw rcX7_readDraw_0 20 rfl) rfl
theorem dX7_readDraw_41 : decode cX7_readDraw 41 = .ok (.aload_n 0, 1) := dk_42 (dw rcX7_readDraw_0 21 rfl)
theorem dX7_readDraw_42 : decode cX7_readDraw 42 = .ok (.getfield 99, 3) := dk_180 (dw rcX7_readDraw_0 22 rfl) rfl
theorem dX7_readDraw_45 : decode cX7_readDraw 45 = .ok (.putfield 175, 3) := dk_181 (dw rcX7_readDraw_0 23 rfl) rfl
noncomputable def rbX7_readDraw_48 : List (Nat × List Nat) := [(48, [42]), (49, [180, 0, 26]), (52, [16, 59]), (54, [182, 0, 115]), (57, [172])]
theorem rcX7_readDraw_48 : dgo (lb cX7_readDraw) 0 rbX7_readDraw_48 = true := by decide +kernel
theorem dX7_readDraw_48 : decode cX7_readDraw 48 = .ok (.aload_n 0, 1) := dk_42 (dw rcX7_readDraw_48 0 rfl)
theorem dX7_readDraw_49 : decode cX7_readDraw 49 = .ok (.getfield 26, 3) := dk_180 (dw rcX7_readDraw_48 1 rfl) rfl
theorem dX7_readDraw_52 : decode cX7_readDraw 52 = .ok (.bipush 59, 2) := dk_16 (dw rcX7_readDraw_48 2 rfl) rfl
theorem dX7_readDraw_54 : decode cX7_readDraw 54 = .ok (.invokevirtual 115, 3) := dk_182 (dw rcX7_readDraw_48 3 rfl) rfl
theorem dX7_readDraw_57 : decode cX7_readDraw 57 = .ok (.ireturn, 1) := dk_172 (dw rcX7_readDraw_48 4 rfl)
set_option maxHeartbeats 4000000 in
set_option maxRecDepth 100000 in
theorem k_rDraw_1 (l : Launch) (D : va_G) (k : KT) (A : Nat → Prop) (a : Nat → Nat) (z : SK) (G : GS)  (hv_5_5 : G.2.2 5 5 = 1) : Met l yX7_readDraw (WS yX7_readDraw cX7_readDraw 1 (some .boolean)) ({ frames := 8, cells := 0, slots := 0, locals := 170 }) (va_Pc [.ref (a 5)] (cW D k A a z G)) (va_Qi (fun (r : Int32) (G1 : GS) => P_rDraw_1 G r G1) (fun (G1 : GS) t => Wd D k A a G1 t.heap) A) 0 0 A := by
  refine Met.ofW (cc := cX7_readDraw) (maxL := 1) (ret := (some .boolean)) (by decide) rfl ?_
  intro p e s m args below meth c s₁ B hml hv
  obtain ⟨rfl, hW, hB_G, hK, hZ⟩ := hv
  have hx := B.exec
  have hb := B.bytes
  have hr := B.returns
  have hts := atoms_spec (ws := WS yX7_readDraw cX7_readDraw 1 (some .boolean)) B.pre
  have hgd : ∀ w ∈ gd, w ∈ WS yX7_readDraw cX7_readDraw 1 (some .boolean) := fun w h => List.mem_cons_of_mem _ h
  have hg : ∀ w ∈ gd, w.before _ s = true := fun w h => hts w (hgd w h)
  have hown : s.vm.findClass RX7 = some m.cls := findClass_of_methodNamed B.named
  have hS : va_S A s.heap s.heap [] := va_S.rf
  have hF : Fr [] [(1, 16), (3, 2), (3, 3), (3, 4), (3, 5), (3, 6), (3, 7), (3, 8), (5, 8), (5, 9)] G G := Fr.rf
  have hl := lv_entry ([.ref (a 5)]) (n := 1) (Nat.le_of_ble_eq_true rfl)
  rw [lg_entry_eq]
  generalize (lg_sl ([.ref (a 5)]) ++ List.replicate (1 - (lg_sl ([.ref (a 5)])).length) Slot.unset).toArray = ls at hl ⊢
  have hl : lv_has ls 1 [(0, .ref (a 5))] := hl
  refine lv_aload_n hx hb dX7_readDraw_0 rfl (lv_at hl 0 rfl) ?_
  refine lv_aload_n hx hb dX7_readDraw_1 rfl (lv_at hl 0 rfl) ?_
  have b_1 : 0 ≤ (G.1 5 8).toInt ∧ (G.1 5 8).toInt ≤ 1 := bd_5_8 hB_G
  refine S_getI (v := (G.1 5 8)) (C := RX7) (T := TX7) (N := 10) hx hb hg iX7 hown hK hW kd_5 rfl 8 (lt_b rfl) (hg (Cond.fieldLink RX7 55 "SlabWalk$Reader" "drawTold" "Z") m320) (fun _ h9 => h9) rfl rfl dX7_readDraw_2 ?_
  refine W.cut (σ := Int32) (pcJ := 13) (J := fun y H locs ls => ∃ (G_5 : GS), (0 ≤ y.toInt ∧ y.toInt ≤ 1) ∧ Jn_k_rDraw_1_1 G y G_5 ∧ Wd D k A a G_5 H ∧ Bd G_5 ∧ Fr [] [(1, 16), (3, 2), (3, 3), (3, 4), (3, 5), (3, 6), (3, 7), (3, 8), (5, 8), (5, 9)] G G_5 ∧ Fr [] [] G G_5 ∧ va_S A s.heap H locs ∧ lv_has ls 1 [(0, .ref (a 5))]) (stJ := fun y => [.int y, .ref (a 5)]) ?_ (fun hJ_6 => ?_)
  · intro y H locs ls hI
    obtain ⟨w_3, hy⟩ : ∃ q, q = y := ⟨_, rfl⟩
    subst hy
    obtain ⟨G_5, f_9, hX_8, hW, hB_G_5, hF, hq_7, hS, hl⟩ := hI
    refine S_calli (va_runV (As := [.int w_3]) (rest := []) ⟨hx, hb, hml, hown, hts⟩ (k_rFirst l D k A a z G_5 w_3 ⟨(by first | exact f_9.1 | omega), (by first | exact f_9.2 | omega)⟩) (cwV 1 hts (gd_V hgd m773 m775 m9 m119 m776) rfl rfl rfl hd_X7_passFirst ⟨Nat.le_of_ble_eq_true rfl, Nat.le_of_ble_eq_true rfl⟩) (pre_W hW hB_G_5 hK hZ hS kd_5 rfl) rfl rfl hl.1 rfl (lv_room (Nat.le_of_ble_eq_true rfl)) dX7_readDraw_13 ⟨Nat.le_of_ble_eq_true rfl, Nat.le_of_ble_eq_true rfl⟩) hS (fun r_10 G_11 H locs hpo hW hS => ?_)
    have hX_14 : P_rFirst w_3 G_5 r_10 G_11 := hpo
    obtain ⟨hB_G_11, hq_12, f_15, hp_13, -⟩ := hpo
    have hF := hF.call9 hq_12 rfl rfl
    refine lv_if_eq (tgt := 30) hx hb dX7_readDraw_16 rfl (fun c_16 => ?_) (fun c_16 => ?_)
    · have c_16 : r_10.toInt = 0 := xI_eq rfl rfl c_16
      refine ic_0 hx hb dX7_readDraw_30 ?_
      exact W.zret (v := 0) hx hb hr (by decide) (fun t ht _ => ⟨⟨0, G_11, rfl, (P_rDraw_1_mk ⟨hB_G_11, hF, ⟨by decide, by decide⟩, ⟨w_3, G_5, hX_8, f_9, hB_G_5, hq_7, ⟨r_10, G_11, hX_14, (Or.inl ⟨c_16, ⟨rfl, rfl⟩⟩)⟩⟩⟩), wd_t ht hW⟩, hS.F ht⟩) hS.2.2 dX7_readDraw_31
    · have c_16 : r_10.toInt ≠ 0 := xI_ne rfl rfl c_16
      refine lv_aload_n hx hb dX7_readDraw_19 rfl (lv_at hl 0 rfl) ?_
      refine ic_0 hx hb dX7_readDraw_20 ?_
      refine lv_sipush (v := 999) hx hb dX7_readDraw_21 (by decide) ?_
      have qc_17 : (0 : Int32).toInt = 0 := rfl
      have qc_18 : (999 : Int32).toInt = 999 := rfl
      refine S_calli (va_runV (As := [.int 0, .int 999]) (rest := []) ⟨hx, hb, hml, hown, hts⟩ (k_rNum l D k A a z G_11 0 999 ) (cwV 2 hts (gd_V hgd m791 m793 m11 m119 m794) rfl rfl rfl hd_X7_passNumber ⟨Nat.le_of_ble_eq_true rfl, Nat.le_of_ble_eq_true rfl⟩) (pre_W hW hB_G_11 hK hZ hS kd_5 rfl) rfl rfl hl.1 rfl (lv_room (Nat.le_of_ble_eq_true rfl)) dX7_readDraw_24 ⟨Nat.le_of_ble_eq_true rfl, Nat.le_of_ble_eq_true rfl⟩) hS (fun r_19 G_20 H locs hpo hW hS => ?_)
      have hX_23 : P_rNum 0 999 G_11 r_19 G_20 := hpo
      obtain ⟨hB_G_20, hq_21, f_24, hp_22, -⟩ := hpo
      have hF := hF.call9 hq_21 rfl rfl
      refine lv_if_ne (tgt := 32) hx hb dX7_readDraw_27 rfl (fun c_25 => ?_) (fun c_25 => ?_)
      · have c_25 : r_19.toInt ≠ 0 := xI_ne rfl rfl c_25
        refine lv_aload_n hx hb dX7_readDraw_32 rfl (lv_at hl 0 rfl) ?_
        refine ic_1 hx hb dX7_readDraw_33 ?_
        refine S_putI (ty := .boolean) (C := RX7) (T := TX7) (N := 10) hx hb hg iX7 tyX7 tyX7_ok nmX7 hown hK hW hS kd_5 rfl 8 (lt_b rfl) (hg (Cond.fieldLink RX7 55 "SlabWalk$Reader" "drawTold" "Z") m320) (fun _ h9 => h9) rfl (by decide +kernel) (by decide) rfl rfl dX7_readDraw_34 (fun G_26 H locs eG_26 hW hS => ?_)
        have hB_G_26 : Bd G_26 := hB_G_20.put (V := 1) (lo := 0) (hi := 1) eG_26 rfl rfl rfl (by decide) (by decide) (hB_G_20.2.put eG_26 rfl)
        have hF := hF.put eG_26 (Or.inr (by decide))
        refine lv_aload_n hx hb dX7_readDraw_37 rfl (lv_at hl 0 rfl) ?_
        refine S_getV (n := 1) (C := RX7) (T := TX7) (N := 10) hx hb hg iX7 hown hK hW kd_5 rfl 5 (lt_b rfl) (hg (Cond.fieldLink RX7 39 "SlabWalk$Reader" "paving" "LSlabWalk$Paving;") m317) (fun _ h9 => h9) rfl ((((congrFun (congrFun (congrArg (fun q => q.2.2) eG_26) 5) 5).trans ((hq_21.r9 5 5 rfl rfl).trans ((hq_12.r9 5 5 rfl rfl).trans (hq_7.r9 5 5 rfl rfl))))).trans (hv_5_5)) dX7_readDraw_38 ?_
        refine lv_aload_n hx hb dX7_readDraw_41 rfl (lv_at hl 0 rfl) ?_
        refine S_getI (v := (G_20.1 5 9)) (C := RX7) (T := TX7) (N := 10) hx hb hg iX7 hown hK hW kd_5 rfl 9 (lt_b rfl) (hg (Cond.fieldLink RX7 99 "SlabWalk$Reader" "number" "I") m321) (fun _ h9 => h9) rfl (gp_ne eG_26 (by decide)) dX7_readDraw_42 ?_
        refine S_putI (ty := .int) (C := RX6) (T := TX6) (N := 17) hx hb hg iX6 tyX6 tyX6_ok nmX6 hown hK hW hS kd_1 rfl 16 (lt_b rfl) (hg (Cond.fieldLink RX7 175 "SlabWalk$Paving" "draw" "I") m208) (fun _ h9 => h9) rfl (by decide +kernel) rfl rfl rfl dX7_readDraw_45 (fun G_27 H locs eG_27 hW hS => ?_)
        have hB_G_27 : Bd G_27 := hB_G_26.put (V := (G_20.1 5 9).toInt) (lo := 0) (hi := 999) eG_27 rfl rfl rfl ((by first | exact ok_415 qc_17 f_24.1 f_24.2 hp_22 c_25 | omega)) ((by first | exact ok_451 qc_18 f_24.1 f_24.2 hp_22 c_25 | omega)) (hB_G_26.2.put eG_27 rfl)
        have hF := hF.put eG_27 (Or.inr (by decide))
        refine lv_aload_n hx hb dX7_readDraw_48 rfl (lv_at hl 0 rfl) ?_
        refine S_getR (n := 3) (C := RX7) (T := TX7) (N := 10) hx hb hg iX7 hown hK hW kd_5 rfl 0 (lt_b rfl) (hg (Cond.fieldLink RX7 26 "SlabWalk$Reader" "tokens" "LSlabWalk$Tokens;") m311) (fun _ h9 => h9) rfl dX7_readDraw_49 ?_
        refine lv_bipush (v := 59) hx hb dX7_readDraw_52 (by decide) ?_
        refine S_calli (va_runV (As := [.int 59]) (rest := []) ⟨hx, hb, hml, hown, hts⟩ (k_tPass l D k A a z G_27 59 ) (cwV 1 hts (gd_V hgd m786 m787 m788 m120 m789) rfl rfl rfl hd_X9_pass ⟨Nat.le_of_ble_eq_true rfl, Nat.le_of_ble_eq_true rfl⟩) (pre_W hW hB_G_27 hK hZ hS kd_3 rfl) rfl rfl hl.1 rfl (lv_room (Nat.le_of_ble_eq_true rfl)) dX7_readDraw_54 ⟨Nat.le_of_ble_eq_true rfl, Nat.le_of_ble_eq_true rfl⟩) hS (fun r_28 G_29 H locs hpo hW hS => ?_)
        have hX_32 : P_tPass 59 G_27 r_28 G_29 := hpo
        obtain ⟨hB_G_29, hq_30, f_33, -⟩ := hpo
        have hF := hF.call9 hq_30 rfl rfl
        exact W.zret (v := r_28) hx hb hr (nar_z ((by first | exact f_33.1 | omega)) ((by first | exact f_33.2 | omega))) (fun t ht _ => ⟨⟨r_28, G_29, rfl, (P_rDraw_1_mk ⟨hB_G_29, hF, ⟨(by first | exact f_33.1 | omega), (by first | exact f_33.2 | omega)⟩, ⟨w_3, G_5, hX_8, f_9, hB_G_5, hq_7, ⟨r_10, G_11, hX_14, (Or.inr ⟨c_16, ⟨r_19, G_20, hX_23, (Or.inr ⟨c_25, ⟨G_27, hB_G_27, (Fr.put (rs := []) (fs := [(1, 16), (5, 8)]) (Fr.put (rs := []) (fs := [(1, 16), (5, 8)]) Fr.rf eG_26 (Or.inr (by decide))) eG_27 (Or.inr (by decide))), (gp_eq eG_27), ((gp_ne eG_27 (by decide)).trans (gp_eq eG_26)), ⟨r_28, G_29, hX_32, ⟨rfl, rfl⟩⟩⟩⟩)⟩⟩)⟩⟩⟩), wd_t ht hW⟩, hS.F ht⟩) hS.2.2 dX7_readDraw_57
      · have c_25 : r_19.toInt = 0 := xI_eq rfl rfl c_25
        refine ic_0 hx hb dX7_readDraw_30 ?_
        exact W.zret (v := 0) hx hb hr (by decide) (fun t ht _ => ⟨⟨0, G_20, rfl, (P_rDraw_1_mk ⟨hB_G_20, hF, ⟨by decide, by decide⟩, ⟨w_3, G_5, hX_8, f_9, hB_G_5, hq_7, ⟨r_10, G_11, hX_14, (Or.inr ⟨c_16, ⟨r_19, G_20, hX_23, (Or.inl ⟨c_25, ⟨rfl, rfl⟩⟩)⟩⟩)⟩⟩⟩), wd_t ht hW⟩, hS.F ht⟩) hS.2.2 dX7_readDraw_31
  refine lv_if_ne (tgt := 12) hx hb dX7_readDraw_5 rfl (fun c_34 => ?_) (fun c_34 => ?_)
  · have c_34 : (G.1 5 8).toInt ≠ 0 := xI_ne rfl rfl c_34
    refine ic_0 hx hb dX7_readDraw_12 ?_
    have qc_35 : (0 : Int32).toInt = 0 := rfl
    exact hJ_6 0 _ _ _ ⟨G, ⟨(by decide), (by decide)⟩, (Jn_k_rDraw_1_1_mk (Or.inr ⟨c_34, ⟨rfl, rfl⟩⟩)), hW, hB_G, hF, (Fr.rf (rs := []) (fs := [])), hS, lv_sub hl [0] rfl⟩
  · have c_34 : (G.1 5 8).toInt = 0 := xI_eq rfl rfl c_34
    refine ic_1 hx hb dX7_readDraw_8 ?_
    refine lv_goto (tgt := 13) hx hb dX7_readDraw_9 rfl ?_
    have qc_36 : (1 : Int32).toInt = 1 := rfl
    exact hJ_6 1 _ _ _ ⟨G, ⟨(by decide), (by decide)⟩, (Jn_k_rDraw_1_1_mk (Or.inl ⟨c_34, ⟨rfl, rfl⟩⟩)), hW, hB_G, hF, (Fr.rf (rs := []) (fs := [])), hS, lv_sub hl [0] rfl⟩

set_option maxHeartbeats 4000000 in
set_option maxRecDepth 100000 in
theorem k_rRead_1 (l : Launch) (D : va_G) (k : KT) (A : Nat → Prop) (a : Nat → Nat) (z : SK) (G : GS) (p0 : Int32) (ha_p0 : 0 ≤ p0.toInt ∧ p0.toInt ≤ 1600) : Met l yX7_read (WS yX7_read cX7_read 5 (some .boolean)) ({ frames := 101, cells := 0, slots := 0, locals := 2170 }) (va_Pc [.ref (a 5), .int p0, .ref (a 1)] (cW D k A a z G)) (va_Qi (fun (r : Int32) (G1 : GS) => P_rRead_1 p0 G r G1) (fun (G1 : GS) t => Wd D k A a G1 t.heap) A) 0 0 A := by
  refine Met.ofW (cc := cX7_read) (maxL := 5) (ret := (some .boolean)) (by decide) rfl ?_
  intro p e s m args below meth c s₁ B hml hv
  obtain ⟨rfl, hW, hB_G, hK, hZ⟩ := hv
  have hx := B.exec
  have hb := B.bytes
  have hr := B.returns
  have hts := atoms_spec (ws := WS yX7_read cX7_read 5 (some .boolean)) B.pre
  have hgd : ∀ w ∈ gd, w ∈ WS yX7_read cX7_read 5 (some .boolean) := fun w h => List.mem_cons_of_mem _ h
  have hg : ∀ w ∈ gd, w.before _ s = true := fun w h => hts w (hgd w h)
  have hown : s.vm.findClass RX7 = some m.cls := findClass_of_methodNamed B.named
  have hS : va_S A s.heap s.heap [] := va_S.rf
  have hF : Fr [10, 11, 12, 13, 14, 15, 16, 17, 18, 34, 35, 36] [(1, 9), (1, 10), (1, 11), (1, 12), (1, 13), (1, 14), (1, 15), (1, 16), (3, 1), (3, 2), (3, 3), (3, 4), (3, 5), (3, 6), (3, 7), (3, 8), (4, 1), (4, 2), (5, 5), (5, 6), (5, 7), (5, 8), (5, 9)] G G := Fr.rf
  have hl := lv_entry ([.ref (a 5), .int p0, .ref (a 1)]) (n := 5) (Nat.le_of_ble_eq_true rfl)
  rw [lg_entry_eq]
  generalize (lg_sl ([.ref (a 5), .int p0, .ref (a 1)]) ++ List.replicate (5 - (lg_sl ([.ref (a 5), .int p0, .ref (a 1)])).length) Slot.unset).toArray = ls at hl ⊢
  have hl : lv_has ls 5 [(0, .ref (a 5)), (1, .int p0), (2, .ref (a 1))] := hl
  refine lv_aload_n hx hb dX7_read_0 rfl (lv_at hl 0 rfl) ?_
  refine lv_aload_n hx hb dX7_read_1 rfl (lv_at hl 2 rfl) ?_
  refine S_putV (ty := .object "SlabWalk$Paving") (n := 1) (C := RX7) (T := TX7) (N := 10) hx hb hg iX7 tyX7 tyX7_ok nmX7 hown hK hW hS kd_5 rfl 5 (lt_b rfl) (hg (Cond.fieldLink RX7 39 "SlabWalk$Reader" "paving" "LSlabWalk$Paving;") m317) (fun _ h9 => h9) rfl (by decide +kernel) rfl rfl rfl dX7_read_2 (fun G_1 H locs eG_1 hW hS => ?_)
  have hB_G_1 : Bd G_1 := hB_G.putr eG_1 (by decide) (by decide)
  have hF := hF.putr eG_1 (Or.inr (by decide))
  refine lv_aload_n hx hb dX7_read_5 rfl (lv_at hl 0 rfl) ?_
  refine S_getV (n := 1) (C := RX7) (T := TX7) (N := 10) hx hb hg iX7 hown hK hW kd_5 rfl 5 (lt_b rfl) (hg (Cond.fieldLink RX7 39 "SlabWalk$Reader" "paving" "LSlabWalk$Paving;") m317) (fun _ h9 => h9) rfl (gp_re eG_1) dX7_read_6 ?_
  refine S_callv (va_runV (As := []) (rest := []) ⟨hx, hb, hml, hown, hts⟩ (k_empty_1 l D k A a z G_1  ) (cwV 0 hts (gd_V hgd m630 m153 m154 m118 m155) rfl rfl rfl hd_X6_empty ⟨Nat.le_of_ble_eq_true rfl, Nat.le_of_ble_eq_true rfl⟩) (pre_W hW hB_G_1 hK hZ hS kd_1 rfl) rfl rfl hl.1 rfl (lv_room (Nat.le_of_ble_eq_true rfl)) dX7_read_9 ⟨Nat.le_of_ble_eq_true rfl, Nat.le_of_ble_eq_true rfl⟩) hS (fun G_3 H locs hpo hW hS => ?_)
  have hX_6 : P_empty_1 G_1 G_3 := hpo
  obtain ⟨hB_G_3, hq_4, -⟩ := hpo
  have hF := hF.call9 hq_4 rfl rfl
  refine lv_aload_n hx hb dX7_read_12 rfl (lv_at hl 0 rfl) ?_
  refine ic_0 hx hb dX7_read_13 ?_
  refine S_putI (ty := .boolean) (C := RX7) (T := TX7) (N := 10) hx hb hg iX7 tyX7 tyX7_ok nmX7 hown hK hW hS kd_5 rfl 6 (lt_b rfl) (hg (Cond.fieldLink RX7 48 "SlabWalk$Reader" "slipTold" "Z") m318) (fun _ h9 => h9) rfl (by decide +kernel) (by decide) rfl rfl dX7_read_14 (fun G_7 H locs eG_7 hW hS => ?_)
  have hB_G_7 : Bd G_7 := hB_G_3.put (V := 0) (lo := 0) (hi := 1) eG_7 rfl rfl rfl (by decide) (by decide) (hB_G_3.2.put eG_7 rfl)
  have hF := hF.put eG_7 (Or.inr (by decide))
  refine lv_aload_n hx hb dX7_read_17 rfl (lv_at hl 0 rfl) ?_
  refine ic_0 hx hb dX7_read_18 ?_
  refine S_putI (ty := .boolean) (C := RX7) (T := TX7) (N := 10) hx hb hg iX7 tyX7 tyX7_ok nmX7 hown hK hW hS kd_5 rfl 7 (lt_b rfl) (hg (Cond.fieldLink RX7 52 "SlabWalk$Reader" "handTold" "Z") m319) (fun _ h9 => h9) rfl (by decide +kernel) (by decide) rfl rfl dX7_read_19 (fun G_8 H locs eG_8 hW hS => ?_)
  have hB_G_8 : Bd G_8 := hB_G_7.put (V := 0) (lo := 0) (hi := 1) eG_8 rfl rfl rfl (by decide) (by decide) (hB_G_7.2.put eG_8 rfl)
  have hF := hF.put eG_8 (Or.inr (by decide))
  refine lv_aload_n hx hb dX7_read_22 rfl (lv_at hl 0 rfl) ?_
  refine ic_0 hx hb dX7_read_23 ?_
  refine S_putI (ty := .boolean) (C := RX7) (T := TX7) (N := 10) hx hb hg iX7 tyX7 tyX7_ok nmX7 hown hK hW hS kd_5 rfl 8 (lt_b rfl) (hg (Cond.fieldLink RX7 55 "SlabWalk$Reader" "drawTold" "Z") m320) (fun _ h9 => h9) rfl (by decide +kernel) (by decide) rfl rfl dX7_read_24 (fun G_9 H locs eG_9 hW hS => ?_)
  have hB_G_9 : Bd G_9 := hB_G_8.put (V := 0) (lo := 0) (hi := 1) eG_9 rfl rfl rfl (by decide) (by decide) (hB_G_8.2.put eG_9 rfl)
  have hF := hF.put eG_9 (Or.inr (by decide))
  refine lv_aload_n hx hb dX7_read_27 rfl (lv_at hl 0 rfl) ?_
  refine S_getR (n := 3) (C := RX7) (T := TX7) (N := 10) hx hb hg iX7 hown hK hW kd_5 rfl 0 (lt_b rfl) (hg (Cond.fieldLink RX7 26 "SlabWalk$Reader" "tokens" "LSlabWalk$Tokens;") m311) (fun _ h9 => h9) rfl dX7_read_28 ?_
  refine lv_iload_n hx hb dX7_read_31 rfl (lv_at hl 1 rfl) ?_
  refine S_callv (va_runV (As := [.int p0]) (rest := []) ⟨hx, hb, hml, hown, hts⟩ (k_tOpen l D k A a z G_9 p0 ⟨(by first | exact ha_p0.1 | omega), (by first | exact ha_p0.2 | omega)⟩) (cwV 1 hts (gd_V hgd m631 m632 m633 m120 m634) rfl rfl rfl hd_X9_open ⟨Nat.le_of_ble_eq_true rfl, Nat.le_of_ble_eq_true rfl⟩) (pre_W hW hB_G_9 hK hZ hS kd_3 rfl) rfl rfl hl.1 rfl (lv_room (Nat.le_of_ble_eq_true rfl)) dX7_read_32 ⟨Nat.le_of_ble_eq_true rfl, Nat.le_of_ble_eq_true rfl⟩) hS (fun G_11 H locs hpo hW hS => ?_)
  have hX_14 : P_tOpen p0 G_9 G_11 := hpo
  obtain ⟨hB_G_11, hq_12, -⟩ := hpo
  have hF := hF.call9 hq_12 rfl rfl
  refine ic_1 hx hb dX7_read_35 ?_
  refine lv_istore_n (lv' := [(3, .int 1), (0, .ref (a 5)), (1, .int p0), (2, .ref (a 1))]) hx hb dX7_read_36 rfl hl (lt_b rfl) rfl (fun ls hl => ?_)
  refine ic_0 hx hb dX7_read_37 ?_
  refine lv_istore (lv' := [(4, .int 0), (3, .int 1), (0, .ref (a 5)), (1, .int p0), (2, .ref (a 1))]) hx hb dX7_read_38 hl (lt_b rfl) rfl (fun ls hl => ?_)
  have qc_22 : (0 : Int32).toInt = 0 := rfl
  have qc_23 : (1 : Int32).toInt = 1 := rfl
  refine loop_N (Inv := fun n H locs ls => ∃ (G_15 : GS) (x_19 : Int32) (x_20 : Int32), (n : Int) = 1600 - x_19.toInt ∧ (0 ≤ x_19.toInt ∧ x_19.toInt ≤ 1600) ∧ (0 ≤ x_20.toInt ∧ x_20.toInt ≤ 1) ∧ Rc (St_k_rRead_1_1) (0, 1, G_11) (x_19, x_20, G_15) ∧ Wd D k A a G_15 H ∧ Bd G_15 ∧ Fr [10, 11, 12, 13, 14, 15, 16, 17, 18, 34, 35, 36] [(1, 9), (1, 10), (1, 11), (1, 12), (1, 13), (1, 14), (1, 15), (1, 16), (3, 1), (3, 2), (3, 3), (3, 4), (3, 5), (3, 6), (3, 7), (3, 8), (4, 1), (4, 2), (5, 5), (5, 6), (5, 7), (5, 8), (5, 9)] G G_15 ∧ Fr [10, 11, 12, 13, 14, 15, 16, 17, 18, 34, 35, 36] [(1, 9), (1, 10), (1, 11), (1, 12), (1, 13), (1, 14), (1, 15), (1, 16), (3, 2), (3, 3), (3, 4), (3, 5), (3, 6), (3, 7), (3, 8), (4, 1), (4, 2), (5, 6), (5, 7), (5, 8), (5, 9)] G_11 G_15 ∧ va_S A s.heap H locs ∧ lv_has ls 5 [(4, .int x_19), (3, .int x_20), (0, .ref (a 5))]) (fun n_18 H locs ls ih_17 hI => ?_) (1600 - 0 : Int).toNat ⟨G_11, 0, 1, (Int.toNat_of_nonneg ((by decide))), ⟨(by decide), (by decide)⟩, ⟨(by decide), (by decide)⟩, Rc.rf, hW, hB_G_11, hF, Fr.rf, hS, lv_sub hl [0, 1, 2] rfl⟩
  obtain ⟨G_15, x_19, x_20, hn_26, f_24, f_25, hX_21, hW, hB_G_15, hF, hq_16, hS, hl⟩ := hI
  refine lv_iload_n hx hb dX7_read_40 rfl (lv_at hl 1 rfl) ?_
  refine lv_if_eq (tgt := 195) hx hb dX7_read_41 rfl (fun c_27 => ?_) (fun c_27 => ?_)
  · have c_27 : x_20.toInt = 0 := xI_eq rfl rfl c_27
    refine lv_iload_n hx hb dX7_read_195 rfl (lv_at hl 1 rfl) ?_
    exact W.zret (v := x_20) hx hb hr (nar_z ((by first | exact f_25.1 | omega)) ((by first | exact f_25.2 | omega))) (fun t ht _ => ⟨⟨x_20, G_15, rfl, (P_rRead_1_mk ⟨hB_G_15, hF, ⟨(by first | exact f_25.1 | omega), (by first | exact f_25.2 | omega)⟩, ⟨G_1, hB_G_1, (Fr.putr (rs := []) (fs := [(5, 5)]) Fr.rf eG_1 (Or.inr (by decide))), (gp_re eG_1), ⟨G_3, hX_6, ⟨G_9, hB_G_9, (Fr.put (rs := []) (fs := [(5, 6), (5, 7), (5, 8)]) (Fr.put (rs := []) (fs := [(5, 6), (5, 7), (5, 8)]) (Fr.put (rs := []) (fs := [(5, 6), (5, 7), (5, 8)]) Fr.rf eG_7 (Or.inr (by decide))) eG_8 (Or.inr (by decide))) eG_9 (Or.inr (by decide))), ((gp_ne eG_9 (by decide)).trans ((gp_ne eG_8 (by decide)).trans (gp_eq eG_7))), ((gp_ne eG_9 (by decide)).trans (gp_eq eG_8)), (gp_eq eG_9), ⟨G_11, hX_14, ⟨x_19, x_20, G_15, hX_21, f_24, f_25, hB_G_15, hq_16, (Or.inl ⟨c_27, ⟨rfl, rfl⟩⟩)⟩⟩⟩⟩⟩⟩), wd_t ht hW⟩, hS.F ht⟩) hS.2.2 dX7_read_196
  · have c_27 : x_20.toInt ≠ 0 := xI_ne rfl rfl c_27
    refine lv_iload hx hb dX7_read_44 (lv_at hl 0 rfl) ?_
    refine lv_sipush (v := 1600) hx hb dX7_read_46 (by decide) ?_
    refine lv_icmp_ge (tgt := 195) hx hb dX7_read_49 rfl (fun c_28 => ?_) (fun c_28 => ?_)
    · have c_28 : 1600 ≤ x_19.toInt := xI_le rfl rfl c_28
      refine lv_iload_n hx hb dX7_read_195 rfl (lv_at hl 1 rfl) ?_
      exact W.zret (v := x_20) hx hb hr (nar_z ((by first | exact f_25.1 | omega)) ((by first | exact f_25.2 | omega))) (fun t ht _ => ⟨⟨x_20, G_15, rfl, (P_rRead_1_mk ⟨hB_G_15, hF, ⟨(by first | exact f_25.1 | omega), (by first | exact f_25.2 | omega)⟩, ⟨G_1, hB_G_1, (Fr.putr (rs := []) (fs := [(5, 5)]) Fr.rf eG_1 (Or.inr (by decide))), (gp_re eG_1), ⟨G_3, hX_6, ⟨G_9, hB_G_9, (Fr.put (rs := []) (fs := [(5, 6), (5, 7), (5, 8)]) (Fr.put (rs := []) (fs := [(5, 6), (5, 7), (5, 8)]) (Fr.put (rs := []) (fs := [(5, 6), (5, 7), (5, 8)]) Fr.rf eG_7 (Or.inr (by decide))) eG_8 (Or.inr (by decide))) eG_9 (Or.inr (by decide))), ((gp_ne eG_9 (by decide)).trans ((gp_ne eG_8 (by decide)).trans (gp_eq eG_7))), ((gp_ne eG_9 (by decide)).trans (gp_eq eG_8)), (gp_eq eG_9), ⟨G_11, hX_14, ⟨x_19, x_20, G_15, hX_21, f_24, f_25, hB_G_15, hq_16, (Or.inr ⟨c_27, (Or.inl ⟨c_28, ⟨rfl, rfl⟩⟩)⟩)⟩⟩⟩⟩⟩⟩), wd_t ht hW⟩, hS.F ht⟩) hS.2.2 dX7_read_196
    · have c_28 : x_19.toInt < 1600 := xI_nle rfl rfl c_28
      refine lv_aload_n hx hb dX7_read_52 rfl (lv_at hl 2 rfl) ?_
      refine S_getR (n := 3) (C := RX7) (T := TX7) (N := 10) hx hb hg iX7 hown hK hW kd_5 rfl 0 (lt_b rfl) (hg (Cond.fieldLink RX7 26 "SlabWalk$Reader" "tokens" "LSlabWalk$Tokens;") m311) (fun _ h9 => h9) rfl dX7_read_53 ?_
      refine S_getI (v := (G_15.1 3 3)) (C := RX9) (T := TX9) (N := 9) hx hb hg iX9 hown hK hW kd_3 rfl 3 (lt_b rfl) (hg (Cond.fieldLink RX7 62 "SlabWalk$Tokens" "kind" "I") m261) (fun _ h9 => h9) rfl rfl dX7_read_56 ?_
      refine lv_sipush (v := 203) hx hb dX7_read_59 (by decide) ?_
      refine lv_icmp_eq (tgt := 195) hx hb dX7_read_62 rfl (fun c_29 => ?_) (fun c_29 => ?_)
      · have c_29 : (G_15.1 3 3).toInt = 203 := xI_eq rfl rfl c_29
        refine lv_iload_n hx hb dX7_read_195 rfl (lv_at hl 1 rfl) ?_
        exact W.zret (v := x_20) hx hb hr (nar_z ((by first | exact f_25.1 | omega)) ((by first | exact f_25.2 | omega))) (fun t ht _ => ⟨⟨x_20, G_15, rfl, (P_rRead_1_mk ⟨hB_G_15, hF, ⟨(by first | exact f_25.1 | omega), (by first | exact f_25.2 | omega)⟩, ⟨G_1, hB_G_1, (Fr.putr (rs := []) (fs := [(5, 5)]) Fr.rf eG_1 (Or.inr (by decide))), (gp_re eG_1), ⟨G_3, hX_6, ⟨G_9, hB_G_9, (Fr.put (rs := []) (fs := [(5, 6), (5, 7), (5, 8)]) (Fr.put (rs := []) (fs := [(5, 6), (5, 7), (5, 8)]) (Fr.put (rs := []) (fs := [(5, 6), (5, 7), (5, 8)]) Fr.rf eG_7 (Or.inr (by decide))) eG_8 (Or.inr (by decide))) eG_9 (Or.inr (by decide))), ((gp_ne eG_9 (by decide)).trans ((gp_ne eG_8 (by decide)).trans (gp_eq eG_7))), ((gp_ne eG_9 (by decide)).trans (gp_eq eG_8)), (gp_eq eG_9), ⟨G_11, hX_14, ⟨x_19, x_20, G_15, hX_21, f_24, f_25, hB_G_15, hq_16, (Or.inr ⟨c_27, (Or.inr ⟨c_28, ⟨c_29, ⟨rfl, rfl⟩⟩⟩)⟩)⟩⟩⟩⟩⟩⟩), wd_t ht hW⟩, hS.F ht⟩) hS.2.2 dX7_read_196
      · have c_29 : (G_15.1 3 3).toInt ≠ 203 := xI_ne rfl rfl c_29
        refine lv_aload_n hx hb dX7_read_65 rfl (lv_at hl 2 rfl) ?_
        refine S_getR (n := 3) (C := RX7) (T := TX7) (N := 10) hx hb hg iX7 hown hK hW kd_5 rfl 0 (lt_b rfl) (hg (Cond.fieldLink RX7 26 "SlabWalk$Reader" "tokens" "LSlabWalk$Tokens;") m311) (fun _ h9 => h9) rfl dX7_read_66 ?_
        refine S_getI (v := (G_15.1 3 3)) (C := RX9) (T := TX9) (N := 9) hx hb hg iX9 hown hK hW kd_3 rfl 3 (lt_b rfl) (hg (Cond.fieldLink RX7 62 "SlabWalk$Tokens" "kind" "I") m261) (fun _ h9 => h9) rfl rfl dX7_read_69 ?_
        by_cases c_30 : (G_15.1 3 3) = 128
        · refine lv_tableIn (tgt := 132) hx hb dX7_read_72 (by rw [c_30]; decide) (by rw [c_30]; decide) (off := 60) (by rw [c_30]; decide) (by decide) ?_
          have c_30 : (G_15.1 3 3).toInt = 128 := xI_eq rfl rfl c_30
          refine lv_aload_n hx hb dX7_read_132 rfl (lv_at hl 2 rfl) ?_
          refine S_calli (va_runV (As := []) (rest := []) ⟨hx, hb, hml, hown, hts⟩ (k_rStreet_1 l D k A a z G_15  ((hq_16.r9 5 5 rfl rfl).trans ((hq_12.r9 5 5 rfl rfl).trans ((congrFun (congrFun (congrArg (fun q => q.2.2) eG_9) 5) 5).trans ((congrFun (congrFun (congrArg (fun q => q.2.2) eG_8) 5) 5).trans ((congrFun (congrFun (congrArg (fun q => q.2.2) eG_7) 5) 5).trans ((hq_4.r9 5 5 rfl rfl).trans (gp_re eG_1)))))))) (cwV 0 hts (gd_V hgd m769 m771 m8 m119 m772) rfl rfl rfl hd_X7_readStreet ⟨Nat.le_of_ble_eq_true rfl, Nat.le_of_ble_eq_true rfl⟩) (pre_W hW hB_G_15 hK hZ hS kd_5 rfl) rfl rfl hl.1 rfl (lv_room (Nat.le_of_ble_eq_true rfl)) dX7_read_133 ⟨Nat.le_of_ble_eq_true rfl, Nat.le_of_ble_eq_true rfl⟩) hS (fun r_31 G_32 H locs hpo hW hS => ?_)
          have hX_35 : P_rStreet_1 G_15 r_31 G_32 := hpo
          obtain ⟨hB_G_32, hq_33, f_36, -⟩ := hpo
          have hF := hF.call9 hq_33 rfl rfl
          refine lv_istore_n (lv' := [(3, .int r_31), (4, .int x_19), (0, .ref (a 5))]) hx hb dX7_read_136 rfl hl (lt_b rfl) rfl (fun ls hl => ?_)
          refine lv_goto (tgt := 189) hx hb dX7_read_137 rfl ?_
          obtain ⟨y_37, ey_37⟩ : ∃ q, q = x_19 + 1 := ⟨_, rfl⟩
          have ty_37 : y_37.toInt = x_19.toInt + 1 := xI_add rfl rfl ey_37 ((by first | exact ok_21 f_24.1 | omega)) ((by first | exact ok_122 f_24.2 | omega))
          refine lv_iinc (v := y_37) (lv' := [(4, .int y_37), (3, .int r_31), (0, .ref (a 5))]) hx hb dX7_read_189 hl (k := 1) rfl (by rw [ey_37]; rfl) (lt_b rfl) rfl (fun ls hl => ?_)
          refine lv_goto (tgt := 40) hx hb dX7_read_192 rfl ?_
          exact ih_17 (1600 - y_37.toInt : Int).toNat ((by first | (clear ha_p0 f_25 c_27 c_29 c_30 f_36; omega) | omega)) _ _ _ ⟨G_32, y_37, r_31, (Int.toNat_of_nonneg ((by first | exact ok_388 f_24.2 c_28 ty_37 | omega))), ⟨(by first | exact ok_23 f_24.1 ty_37 | omega), (by first | exact ok_389 f_24.2 c_28 ty_37 | omega)⟩, ⟨(by first | exact f_36.1 | omega), (by first | exact f_36.2 | omega)⟩, (hX_21.st (St_k_rRead_1_1_mk ⟨x_19, x_20, G_15, y_37, r_31, G_32, rfl, rfl, f_24, f_25, hB_G_15, ⟨c_27, ⟨c_28, ⟨c_29, (Or.inl ⟨c_30, ⟨r_31, G_32, hX_35, ⟨y_37, ty_37, ⟨rfl, rfl, rfl⟩⟩⟩⟩)⟩⟩⟩⟩)), hW, hB_G_32, hF, (Fr.call9 (rs := [10, 11, 12, 13, 14, 15, 16, 17, 18, 34, 35, 36]) (fs := [(1, 9), (1, 10), (1, 11), (1, 12), (1, 13), (1, 14), (1, 15), (1, 16), (3, 2), (3, 3), (3, 4), (3, 5), (3, 6), (3, 7), (3, 8), (4, 1), (4, 2), (5, 6), (5, 7), (5, 8), (5, 9)]) (Fr.call9 (rs := [10, 11, 12, 13, 14, 15, 16, 17, 18, 34, 35, 36]) (fs := [(1, 9), (1, 10), (1, 11), (1, 12), (1, 13), (1, 14), (1, 15), (1, 16), (3, 2), (3, 3), (3, 4), (3, 5), (3, 6), (3, 7), (3, 8), (4, 1), (4, 2), (5, 6), (5, 7), (5, 8), (5, 9)]) Fr.rf hq_16 rfl rfl) hq_33 rfl rfl), hS, lv_sub hl [0, 1, 2] rfl⟩
        by_cases c_38 : (G_15.1 3 3) = 129
        · refine lv_tableIn (tgt := 140) hx hb dX7_read_72 (by rw [c_38]; decide) (by rw [c_38]; decide) (off := 68) (by rw [c_38]; decide) (by decide) ?_
          have c_38 : (G_15.1 3 3).toInt = 129 := xI_eq rfl rfl c_38
          refine lv_aload_n hx hb dX7_read_140 rfl (lv_at hl 2 rfl) ?_
          refine S_calli (va_runV (As := []) (rest := []) ⟨hx, hb, hml, hown, hts⟩ (k_rWalker_1 l D k A a z G_15  ((hq_16.r9 5 5 rfl rfl).trans ((hq_12.r9 5 5 rfl rfl).trans ((congrFun (congrFun (congrArg (fun q => q.2.2) eG_9) 5) 5).trans ((congrFun (congrFun (congrArg (fun q => q.2.2) eG_8) 5) 5).trans ((congrFun (congrFun (congrArg (fun q => q.2.2) eG_7) 5) 5).trans ((hq_4.r9 5 5 rfl rfl).trans (gp_re eG_1)))))))) (cwV 0 hts (gd_V hgd m809 m811 m14 m119 m812) rfl rfl rfl hd_X7_readWalker ⟨Nat.le_of_ble_eq_true rfl, Nat.le_of_ble_eq_true rfl⟩) (pre_W hW hB_G_15 hK hZ hS kd_5 rfl) rfl rfl hl.1 rfl (lv_room (Nat.le_of_ble_eq_true rfl)) dX7_read_141 ⟨Nat.le_of_ble_eq_true rfl, Nat.le_of_ble_eq_true rfl⟩) hS (fun r_39 G_40 H locs hpo hW hS => ?_)
          have hX_43 : P_rWalker_1 G_15 r_39 G_40 := hpo
          obtain ⟨hB_G_40, hq_41, f_44, -⟩ := hpo
          have hF := hF.call9 hq_41 rfl rfl
          refine lv_istore_n (lv' := [(3, .int r_39), (4, .int x_19), (0, .ref (a 5))]) hx hb dX7_read_144 rfl hl (lt_b rfl) rfl (fun ls hl => ?_)
          refine lv_goto (tgt := 189) hx hb dX7_read_145 rfl ?_
          obtain ⟨y_45, ey_45⟩ : ∃ q, q = x_19 + 1 := ⟨_, rfl⟩
          have ty_45 : y_45.toInt = x_19.toInt + 1 := xI_add rfl rfl ey_45 ((by first | exact ok_21 f_24.1 | omega)) ((by first | exact ok_122 f_24.2 | omega))
          refine lv_iinc (v := y_45) (lv' := [(4, .int y_45), (3, .int r_39), (0, .ref (a 5))]) hx hb dX7_read_189 hl (k := 1) rfl (by rw [ey_45]; rfl) (lt_b rfl) rfl (fun ls hl => ?_)
          refine lv_goto (tgt := 40) hx hb dX7_read_192 rfl ?_
          exact ih_17 (1600 - y_45.toInt : Int).toNat ((by first | (clear ha_p0 f_25 c_27 c_29 c_38 f_44; omega) | omega)) _ _ _ ⟨G_40, y_45, r_39, (Int.toNat_of_nonneg ((by first | exact ok_388 f_24.2 c_28 ty_45 | omega))), ⟨(by first | exact ok_23 f_24.1 ty_45 | omega), (by first | exact ok_389 f_24.2 c_28 ty_45 | omega)⟩, ⟨(by first | exact f_44.1 | omega), (by first | exact f_44.2 | omega)⟩, (hX_21.st (St_k_rRead_1_1_mk ⟨x_19, x_20, G_15, y_45, r_39, G_40, rfl, rfl, f_24, f_25, hB_G_15, ⟨c_27, ⟨c_28, ⟨c_29, (Or.inr ⟨(xI_ne (Y := 128) rfl rfl c_30), (Or.inl ⟨c_38, ⟨r_39, G_40, hX_43, ⟨y_45, ty_45, ⟨rfl, rfl, rfl⟩⟩⟩⟩)⟩)⟩⟩⟩⟩)), hW, hB_G_40, hF, (Fr.call9 (rs := [10, 11, 12, 13, 14, 15, 16, 17, 18, 34, 35, 36]) (fs := [(1, 9), (1, 10), (1, 11), (1, 12), (1, 13), (1, 14), (1, 15), (1, 16), (3, 2), (3, 3), (3, 4), (3, 5), (3, 6), (3, 7), (3, 8), (4, 1), (4, 2), (5, 6), (5, 7), (5, 8), (5, 9)]) (Fr.call9 (rs := [10, 11, 12, 13, 14, 15, 16, 17, 18, 34, 35, 36]) (fs := [(1, 9), (1, 10), (1, 11), (1, 12), (1, 13), (1, 14), (1, 15), (1, 16), (3, 2), (3, 3), (3, 4), (3, 5), (3, 6), (3, 7), (3, 8), (4, 1), (4, 2), (5, 6), (5, 7), (5, 8), (5, 9)]) Fr.rf hq_16 rfl rfl) hq_41 rfl rfl), hS, lv_sub hl [0, 1, 2] rfl⟩
        by_cases c_46 : (G_15.1 3 3) = 130
        · refine lv_tableIn (tgt := 180) hx hb dX7_read_72 (by rw [c_46]; decide) (by rw [c_46]; decide) (off := 108) (by rw [c_46]; decide) (by decide) ?_
          have c_46 : (G_15.1 3 3).toInt = 130 := xI_eq rfl rfl c_46
          refine lv_aload_n hx hb dX7_read_180 rfl (lv_at hl 2 rfl) ?_
          refine S_getR (n := 3) (C := RX7) (T := TX7) (N := 10) hx hb hg iX7 hown hK hW kd_5 rfl 0 (lt_b rfl) (hg (Cond.fieldLink RX7 26 "SlabWalk$Reader" "tokens" "LSlabWalk$Tokens;") m311) (fun _ h9 => h9) rfl dX7_read_181 ?_
          refine ic_2 hx hb dX7_read_184 ?_
          refine S_calli (va_runV (As := [.int 2]) (rest := []) ⟨hx, hb, hml, hown, hts⟩ (k_tRefuse l D k A a z G_15 2 ⟨by decide, by decide⟩) (cwV 1 hts (gd_V hgd m778 m779 m780 m120 m781) rfl rfl rfl hd_X9_refuse ⟨Nat.le_of_ble_eq_true rfl, Nat.le_of_ble_eq_true rfl⟩) (pre_W hW hB_G_15 hK hZ hS kd_3 rfl) rfl rfl hl.1 rfl (lv_room (Nat.le_of_ble_eq_true rfl)) dX7_read_185 ⟨Nat.le_of_ble_eq_true rfl, Nat.le_of_ble_eq_true rfl⟩) hS (fun r_47 G_48 H locs hpo hW hS => ?_)
          have hX_51 : P_tRefuse 2 G_15 r_47 G_48 := hpo
          obtain ⟨hB_G_48, hq_49, f_52, -⟩ := hpo
          have hF := hF.call9 hq_49 rfl rfl
          refine lv_istore_n (lv' := [(3, .int r_47), (4, .int x_19), (0, .ref (a 5))]) hx hb dX7_read_188 rfl hl (lt_b rfl) rfl (fun ls hl => ?_)
          obtain ⟨y_53, ey_53⟩ : ∃ q, q = x_19 + 1 := ⟨_, rfl⟩
          have ty_53 : y_53.toInt = x_19.toInt + 1 := xI_add rfl rfl ey_53 ((by first | exact ok_21 f_24.1 | omega)) ((by first | exact ok_122 f_24.2 | omega))
          refine lv_iinc (v := y_53) (lv' := [(4, .int y_53), (3, .int r_47), (0, .ref (a 5))]) hx hb dX7_read_189 hl (k := 1) rfl (by rw [ey_53]; rfl) (lt_b rfl) rfl (fun ls hl => ?_)
          refine lv_goto (tgt := 40) hx hb dX7_read_192 rfl ?_
          exact ih_17 (1600 - y_53.toInt : Int).toNat ((by first | (clear ha_p0 f_25 c_27 c_29 c_46 f_52; omega) | omega)) _ _ _ ⟨G_48, y_53, r_47, (Int.toNat_of_nonneg ((by first | exact ok_388 f_24.2 c_28 ty_53 | omega))), ⟨(by first | exact ok_23 f_24.1 ty_53 | omega), (by first | exact ok_389 f_24.2 c_28 ty_53 | omega)⟩, ⟨(by first | exact f_52.1 | omega), (by first | exact ok_130 f_52.2 | omega)⟩, (hX_21.st (St_k_rRead_1_1_mk ⟨x_19, x_20, G_15, y_53, r_47, G_48, rfl, rfl, f_24, f_25, hB_G_15, ⟨c_27, ⟨c_28, ⟨c_29, (Or.inr ⟨(xI_ne (Y := 128) rfl rfl c_30), (Or.inr ⟨(xI_ne (Y := 129) rfl rfl c_38), (Or.inl ⟨c_46, ⟨r_47, G_48, hX_51, ⟨y_53, ty_53, ⟨rfl, rfl, rfl⟩⟩⟩⟩)⟩)⟩)⟩⟩⟩⟩)), hW, hB_G_48, hF, (Fr.call9 (rs := [10, 11, 12, 13, 14, 15, 16, 17, 18, 34, 35, 36]) (fs := [(1, 9), (1, 10), (1, 11), (1, 12), (1, 13), (1, 14), (1, 15), (1, 16), (3, 2), (3, 3), (3, 4), (3, 5), (3, 6), (3, 7), (3, 8), (4, 1), (4, 2), (5, 6), (5, 7), (5, 8), (5, 9)]) (Fr.call9 (rs := [10, 11, 12, 13, 14, 15, 16, 17, 18, 34, 35, 36]) (fs := [(1, 9), (1, 10), (1, 11), (1, 12), (1, 13), (1, 14), (1, 15), (1, 16), (3, 2), (3, 3), (3, 4), (3, 5), (3, 6), (3, 7), (3, 8), (4, 1), (4, 2), (5, 6), (5, 7), (5, 8), (5, 9)]) Fr.rf hq_16 rfl rfl) hq_49 rfl rfl), hS, lv_sub hl [0, 1, 2] rfl⟩
        by_cases c_54 : (G_15.1 3 3) = 131
        · refine lv_tableIn (tgt := 180) hx hb dX7_read_72 (by rw [c_54]; decide) (by rw [c_54]; decide) (off := 108) (by rw [c_54]; decide) (by decide) ?_
          have c_54 : (G_15.1 3 3).toInt = 131 := xI_eq rfl rfl c_54
          refine lv_aload_n hx hb dX7_read_180 rfl (lv_at hl 2 rfl) ?_
          refine S_getR (n := 3) (C := RX7) (T := TX7) (N := 10) hx hb hg iX7 hown hK hW kd_5 rfl 0 (lt_b rfl) (hg (Cond.fieldLink RX7 26 "SlabWalk$Reader" "tokens" "LSlabWalk$Tokens;") m311) (fun _ h9 => h9) rfl dX7_read_181 ?_
          refine ic_2 hx hb dX7_read_184 ?_
          refine S_calli (va_runV (As := [.int 2]) (rest := []) ⟨hx, hb, hml, hown, hts⟩ (k_tRefuse l D k A a z G_15 2 ⟨by decide, by decide⟩) (cwV 1 hts (gd_V hgd m778 m779 m780 m120 m781) rfl rfl rfl hd_X9_refuse ⟨Nat.le_of_ble_eq_true rfl, Nat.le_of_ble_eq_true rfl⟩) (pre_W hW hB_G_15 hK hZ hS kd_3 rfl) rfl rfl hl.1 rfl (lv_room (Nat.le_of_ble_eq_true rfl)) dX7_read_185 ⟨Nat.le_of_ble_eq_true rfl, Nat.le_of_ble_eq_true rfl⟩) hS (fun r_55 G_56 H locs hpo hW hS => ?_)
          have hX_59 : P_tRefuse 2 G_15 r_55 G_56 := hpo
          obtain ⟨hB_G_56, hq_57, f_60, -⟩ := hpo
          have hF := hF.call9 hq_57 rfl rfl
          refine lv_istore_n (lv' := [(3, .int r_55), (4, .int x_19), (0, .ref (a 5))]) hx hb dX7_read_188 rfl hl (lt_b rfl) rfl (fun ls hl => ?_)
          obtain ⟨y_61, ey_61⟩ : ∃ q, q = x_19 + 1 := ⟨_, rfl⟩
          have ty_61 : y_61.toInt = x_19.toInt + 1 := xI_add rfl rfl ey_61 ((by first | exact ok_21 f_24.1 | omega)) ((by first | exact ok_122 f_24.2 | omega))
          refine lv_iinc (v := y_61) (lv' := [(4, .int y_61), (3, .int r_55), (0, .ref (a 5))]) hx hb dX7_read_189 hl (k := 1) rfl (by rw [ey_61]; rfl) (lt_b rfl) rfl (fun ls hl => ?_)
          refine lv_goto (tgt := 40) hx hb dX7_read_192 rfl ?_
          exact ih_17 (1600 - y_61.toInt : Int).toNat ((by first | (clear ha_p0 f_25 c_27 c_29 c_54 f_60; omega) | omega)) _ _ _ ⟨G_56, y_61, r_55, (Int.toNat_of_nonneg ((by first | exact ok_388 f_24.2 c_28 ty_61 | omega))), ⟨(by first | exact ok_23 f_24.1 ty_61 | omega), (by first | exact ok_389 f_24.2 c_28 ty_61 | omega)⟩, ⟨(by first | exact f_60.1 | omega), (by first | exact ok_130 f_60.2 | omega)⟩, (hX_21.st (St_k_rRead_1_1_mk ⟨x_19, x_20, G_15, y_61, r_55, G_56, rfl, rfl, f_24, f_25, hB_G_15, ⟨c_27, ⟨c_28, ⟨c_29, (Or.inr ⟨(xI_ne (Y := 128) rfl rfl c_30), (Or.inr ⟨(xI_ne (Y := 129) rfl rfl c_38), (Or.inr ⟨(xI_ne (Y := 130) rfl rfl c_46), (Or.inl ⟨c_54, ⟨r_55, G_56, hX_59, ⟨y_61, ty_61, ⟨rfl, rfl, rfl⟩⟩⟩⟩)⟩)⟩)⟩)⟩⟩⟩⟩)), hW, hB_G_56, hF, (Fr.call9 (rs := [10, 11, 12, 13, 14, 15, 16, 17, 18, 34, 35, 36]) (fs := [(1, 9), (1, 10), (1, 11), (1, 12), (1, 13), (1, 14), (1, 15), (1, 16), (3, 2), (3, 3), (3, 4), (3, 5), (3, 6), (3, 7), (3, 8), (4, 1), (4, 2), (5, 6), (5, 7), (5, 8), (5, 9)]) (Fr.call9 (rs := [10, 11, 12, 13, 14, 15, 16, 17, 18, 34, 35, 36]) (fs := [(1, 9), (1, 10), (1, 11), (1, 12), (1, 13), (1, 14), (1, 15), (1, 16), (3, 2), (3, 3), (3, 4), (3, 5), (3, 6), (3, 7), (3, 8), (4, 1), (4, 2), (5, 6), (5, 7), (5, 8), (5, 9)]) Fr.rf hq_16 rfl rfl) hq_57 rfl rfl), hS, lv_sub hl [0, 1, 2] rfl⟩
        by_cases c_62 : (G_15.1 3 3) = 132
        · refine lv_tableIn (tgt := 180) hx hb dX7_read_72 (by rw [c_62]; decide) (by rw [c_62]; decide) (off := 108) (by rw [c_62]; decide) (by decide) ?_
          have c_62 : (G_15.1 3 3).toInt = 132 := xI_eq rfl rfl c_62
          refine lv_aload_n hx hb dX7_read_180 rfl (lv_at hl 2 rfl) ?_
          refine S_getR (n := 3) (C := RX7) (T := TX7) (N := 10) hx hb hg iX7 hown hK hW kd_5 rfl 0 (lt_b rfl) (hg (Cond.fieldLink RX7 26 "SlabWalk$Reader" "tokens" "LSlabWalk$Tokens;") m311) (fun _ h9 => h9) rfl dX7_read_181 ?_
          refine ic_2 hx hb dX7_read_184 ?_
          refine S_calli (va_runV (As := [.int 2]) (rest := []) ⟨hx, hb, hml, hown, hts⟩ (k_tRefuse l D k A a z G_15 2 ⟨by decide, by decide⟩) (cwV 1 hts (gd_V hgd m778 m779 m780 m120 m781) rfl rfl rfl hd_X9_refuse ⟨Nat.le_of_ble_eq_true rfl, Nat.le_of_ble_eq_true rfl⟩) (pre_W hW hB_G_15 hK hZ hS kd_3 rfl) rfl rfl hl.1 rfl (lv_room (Nat.le_of_ble_eq_true rfl)) dX7_read_185 ⟨Nat.le_of_ble_eq_true rfl, Nat.le_of_ble_eq_true rfl⟩) hS (fun r_63 G_64 H locs hpo hW hS => ?_)
          have hX_67 : P_tRefuse 2 G_15 r_63 G_64 := hpo
          obtain ⟨hB_G_64, hq_65, f_68, -⟩ := hpo
          have hF := hF.call9 hq_65 rfl rfl
          refine lv_istore_n (lv' := [(3, .int r_63), (4, .int x_19), (0, .ref (a 5))]) hx hb dX7_read_188 rfl hl (lt_b rfl) rfl (fun ls hl => ?_)
          obtain ⟨y_69, ey_69⟩ : ∃ q, q = x_19 + 1 := ⟨_, rfl⟩
          have ty_69 : y_69.toInt = x_19.toInt + 1 := xI_add rfl rfl ey_69 ((by first | exact ok_21 f_24.1 | omega)) ((by first | exact ok_122 f_24.2 | omega))
          refine lv_iinc (v := y_69) (lv' := [(4, .int y_69), (3, .int r_63), (0, .ref (a 5))]) hx hb dX7_read_189 hl (k := 1) rfl (by rw [ey_69]; rfl) (lt_b rfl) rfl (fun ls hl => ?_)
          refine lv_goto (tgt := 40) hx hb dX7_read_192 rfl ?_
          exact ih_17 (1600 - y_69.toInt : Int).toNat ((by first | (clear ha_p0 f_25 c_27 c_29 c_62 f_68; omega) | omega)) _ _ _ ⟨G_64, y_69, r_63, (Int.toNat_of_nonneg ((by first | exact ok_388 f_24.2 c_28 ty_69 | omega))), ⟨(by first | exact ok_23 f_24.1 ty_69 | omega), (by first | exact ok_389 f_24.2 c_28 ty_69 | omega)⟩, ⟨(by first | exact f_68.1 | omega), (by first | exact ok_130 f_68.2 | omega)⟩, (hX_21.st (St_k_rRead_1_1_mk ⟨x_19, x_20, G_15, y_69, r_63, G_64, rfl, rfl, f_24, f_25, hB_G_15, ⟨c_27, ⟨c_28, ⟨c_29, (Or.inr ⟨(xI_ne (Y := 128) rfl rfl c_30), (Or.inr ⟨(xI_ne (Y := 129) rfl rfl c_38), (Or.inr ⟨(xI_ne (Y := 130) rfl rfl c_46), (Or.inr ⟨(xI_ne (Y := 131) rfl rfl c_54), (Or.inl ⟨c_62, ⟨r_63, G_64, hX_67, ⟨y_69, ty_69, ⟨rfl, rfl, rfl⟩⟩⟩⟩)⟩)⟩)⟩)⟩)⟩⟩⟩⟩)), hW, hB_G_64, hF, (Fr.call9 (rs := [10, 11, 12, 13, 14, 15, 16, 17, 18, 34, 35, 36]) (fs := [(1, 9), (1, 10), (1, 11), (1, 12), (1, 13), (1, 14), (1, 15), (1, 16), (3, 2), (3, 3), (3, 4), (3, 5), (3, 6), (3, 7), (3, 8), (4, 1), (4, 2), (5, 6), (5, 7), (5, 8), (5, 9)]) (Fr.call9 (rs := [10, 11, 12, 13, 14, 15, 16, 17, 18, 34, 35, 36]) (fs := [(1, 9), (1, 10), (1, 11), (1, 12), (1, 13), (1, 14), (1, 15), (1, 16), (3, 2), (3, 3), (3, 4), (3, 5), (3, 6), (3, 7), (3, 8), (4, 1), (4, 2), (5, 6), (5, 7), (5, 8), (5, 9)]) Fr.rf hq_16 rfl rfl) hq_65 rfl rfl), hS, lv_sub hl [0, 1, 2] rfl⟩
        by_cases c_70 : (G_15.1 3 3) = 133
        · refine lv_tableIn (tgt := 180) hx hb dX7_read_72 (by rw [c_70]; decide) (by rw [c_70]; decide) (off := 108) (by rw [c_70]; decide) (by decide) ?_
          have c_70 : (G_15.1 3 3).toInt = 133 := xI_eq rfl rfl c_70
          refine lv_aload_n hx hb dX7_read_180 rfl (lv_at hl 2 rfl) ?_
          refine S_getR (n := 3) (C := RX7) (T := TX7) (N := 10) hx hb hg iX7 hown hK hW kd_5 rfl 0 (lt_b rfl) (hg (Cond.fieldLink RX7 26 "SlabWalk$Reader" "tokens" "LSlabWalk$Tokens;") m311) (fun _ h9 => h9) rfl dX7_read_181 ?_
          refine ic_2 hx hb dX7_read_184 ?_
          refine S_calli (va_runV (As := [.int 2]) (rest := []) ⟨hx, hb, hml, hown, hts⟩ (k_tRefuse l D k A a z G_15 2 ⟨by decide, by decide⟩) (cwV 1 hts (gd_V hgd m778 m779 m780 m120 m781) rfl rfl rfl hd_X9_refuse ⟨Nat.le_of_ble_eq_true rfl, Nat.le_of_ble_eq_true rfl⟩) (pre_W hW hB_G_15 hK hZ hS kd_3 rfl) rfl rfl hl.1 rfl (lv_room (Nat.le_of_ble_eq_true rfl)) dX7_read_185 ⟨Nat.le_of_ble_eq_true rfl, Nat.le_of_ble_eq_true rfl⟩) hS (fun r_71 G_72 H locs hpo hW hS => ?_)
          have hX_75 : P_tRefuse 2 G_15 r_71 G_72 := hpo
          obtain ⟨hB_G_72, hq_73, f_76, -⟩ := hpo
          have hF := hF.call9 hq_73 rfl rfl
          refine lv_istore_n (lv' := [(3, .int r_71), (4, .int x_19), (0, .ref (a 5))]) hx hb dX7_read_188 rfl hl (lt_b rfl) rfl (fun ls hl => ?_)
          obtain ⟨y_77, ey_77⟩ : ∃ q, q = x_19 + 1 := ⟨_, rfl⟩
          have ty_77 : y_77.toInt = x_19.toInt + 1 := xI_add rfl rfl ey_77 ((by first | exact ok_21 f_24.1 | omega)) ((by first | exact ok_122 f_24.2 | omega))
          refine lv_iinc (v := y_77) (lv' := [(4, .int y_77), (3, .int r_71), (0, .ref (a 5))]) hx hb dX7_read_189 hl (k := 1) rfl (by rw [ey_77]; rfl) (lt_b rfl) rfl (fun ls hl => ?_)
          refine lv_goto (tgt := 40) hx hb dX7_read_192 rfl ?_
          exact ih_17 (1600 - y_77.toInt : Int).toNat ((by first | (clear ha_p0 f_25 c_27 c_29 c_70 f_76; omega) | omega)) _ _ _ ⟨G_72, y_77, r_71, (Int.toNat_of_nonneg ((by first | exact ok_388 f_24.2 c_28 ty_77 | omega))), ⟨(by first | exact ok_23 f_24.1 ty_77 | omega), (by first | exact ok_389 f_24.2 c_28 ty_77 | omega)⟩, ⟨(by first | exact f_76.1 | omega), (by first | exact ok_130 f_76.2 | omega)⟩, (hX_21.st (St_k_rRead_1_1_mk ⟨x_19, x_20, G_15, y_77, r_71, G_72, rfl, rfl, f_24, f_25, hB_G_15, ⟨c_27, ⟨c_28, ⟨c_29, (Or.inr ⟨(xI_ne (Y := 128) rfl rfl c_30), (Or.inr ⟨(xI_ne (Y := 129) rfl rfl c_38), (Or.inr ⟨(xI_ne (Y := 130) rfl rfl c_46), (Or.inr ⟨(xI_ne (Y := 131) rfl rfl c_54), (Or.inr ⟨(xI_ne (Y := 132) rfl rfl c_62), (Or.inl ⟨c_70, ⟨r_71, G_72, hX_75, ⟨y_77, ty_77, ⟨rfl, rfl, rfl⟩⟩⟩⟩)⟩)⟩)⟩)⟩)⟩)⟩⟩⟩⟩)), hW, hB_G_72, hF, (Fr.call9 (rs := [10, 11, 12, 13, 14, 15, 16, 17, 18, 34, 35, 36]) (fs := [(1, 9), (1, 10), (1, 11), (1, 12), (1, 13), (1, 14), (1, 15), (1, 16), (3, 2), (3, 3), (3, 4), (3, 5), (3, 6), (3, 7), (3, 8), (4, 1), (4, 2), (5, 6), (5, 7), (5, 8), (5, 9)]) (Fr.call9 (rs := [10, 11, 12, 13, 14, 15, 16, 17, 18, 34, 35, 36]) (fs := [(1, 9), (1, 10), (1, 11), (1, 12), (1, 13), (1, 14), (1, 15), (1, 16), (3, 2), (3, 3), (3, 4), (3, 5), (3, 6), (3, 7), (3, 8), (4, 1), (4, 2), (5, 6), (5, 7), (5, 8), (5, 9)]) Fr.rf hq_16 rfl rfl) hq_73 rfl rfl), hS, lv_sub hl [0, 1, 2] rfl⟩
        by_cases c_78 : (G_15.1 3 3) = 134
        · refine lv_tableIn (tgt := 148) hx hb dX7_read_72 (by rw [c_78]; decide) (by rw [c_78]; decide) (off := 76) (by rw [c_78]; decide) (by decide) ?_
          have c_78 : (G_15.1 3 3).toInt = 134 := xI_eq rfl rfl c_78
          refine lv_aload_n hx hb dX7_read_148 rfl (lv_at hl 2 rfl) ?_
          refine S_calli (va_runV (As := []) (rest := []) ⟨hx, hb, hml, hown, hts⟩ (k_rRule_1 l D k A a z G_15  ((hq_16.r9 5 5 rfl rfl).trans ((hq_12.r9 5 5 rfl rfl).trans ((congrFun (congrFun (congrArg (fun q => q.2.2) eG_9) 5) 5).trans ((congrFun (congrFun (congrArg (fun q => q.2.2) eG_8) 5) 5).trans ((congrFun (congrFun (congrArg (fun q => q.2.2) eG_7) 5) 5).trans ((hq_4.r9 5 5 rfl rfl).trans (gp_re eG_1)))))))) (cwV 0 hts (gd_V hgd m813 m815 m15 m119 m816) rfl rfl rfl hd_X7_readRule ⟨Nat.le_of_ble_eq_true rfl, Nat.le_of_ble_eq_true rfl⟩) (pre_W hW hB_G_15 hK hZ hS kd_5 rfl) rfl rfl hl.1 rfl (lv_room (Nat.le_of_ble_eq_true rfl)) dX7_read_149 ⟨Nat.le_of_ble_eq_true rfl, Nat.le_of_ble_eq_true rfl⟩) hS (fun r_79 G_80 H locs hpo hW hS => ?_)
          have hX_83 : P_rRule_1 G_15 r_79 G_80 := hpo
          obtain ⟨hB_G_80, hq_81, f_84, -⟩ := hpo
          have hF := hF.call9 hq_81 rfl rfl
          refine lv_istore_n (lv' := [(3, .int r_79), (4, .int x_19), (0, .ref (a 5))]) hx hb dX7_read_152 rfl hl (lt_b rfl) rfl (fun ls hl => ?_)
          refine lv_goto (tgt := 189) hx hb dX7_read_153 rfl ?_
          obtain ⟨y_85, ey_85⟩ : ∃ q, q = x_19 + 1 := ⟨_, rfl⟩
          have ty_85 : y_85.toInt = x_19.toInt + 1 := xI_add rfl rfl ey_85 ((by first | exact ok_21 f_24.1 | omega)) ((by first | exact ok_122 f_24.2 | omega))
          refine lv_iinc (v := y_85) (lv' := [(4, .int y_85), (3, .int r_79), (0, .ref (a 5))]) hx hb dX7_read_189 hl (k := 1) rfl (by rw [ey_85]; rfl) (lt_b rfl) rfl (fun ls hl => ?_)
          refine lv_goto (tgt := 40) hx hb dX7_read_192 rfl ?_
          exact ih_17 (1600 - y_85.toInt : Int).toNat ((by first | (clear ha_p0 f_25 c_27 c_29 c_78 f_84; omega) | omega)) _ _ _ ⟨G_80, y_85, r_79, (Int.toNat_of_nonneg ((by first | exact ok_388 f_24.2 c_28 ty_85 | omega))), ⟨(by first | exact ok_23 f_24.1 ty_85 | omega), (by first | exact ok_389 f_24.2 c_28 ty_85 | omega)⟩, ⟨(by first | exact f_84.1 | omega), (by first | exact f_84.2 | omega)⟩, (hX_21.st (St_k_rRead_1_1_mk ⟨x_19, x_20, G_15, y_85, r_79, G_80, rfl, rfl, f_24, f_25, hB_G_15, ⟨c_27, ⟨c_28, ⟨c_29, (Or.inr ⟨(xI_ne (Y := 128) rfl rfl c_30), (Or.inr ⟨(xI_ne (Y := 129) rfl rfl c_38), (Or.inr ⟨(xI_ne (Y := 130) rfl rfl c_46), (Or.inr ⟨(xI_ne (Y := 131) rfl rfl c_54), (Or.inr ⟨(xI_ne (Y := 132) rfl rfl c_62), (Or.inr ⟨(xI_ne (Y := 133) rfl rfl c_70), (Or.inl ⟨c_78, ⟨r_79, G_80, hX_83, ⟨y_85, ty_85, ⟨rfl, rfl, rfl⟩⟩⟩⟩)⟩)⟩)⟩)⟩)⟩)⟩)⟩⟩⟩⟩)), hW, hB_G_80, hF, (Fr.call9 (rs := [10, 11, 12, 13, 14, 15, 16, 17, 18, 34, 35, 36]) (fs := [(1, 9), (1, 10), (1, 11), (1, 12), (1, 13), (1, 14), (1, 15), (1, 16), (3, 2), (3, 3), (3, 4), (3, 5), (3, 6), (3, 7), (3, 8), (4, 1), (4, 2), (5, 6), (5, 7), (5, 8), (5, 9)]) (Fr.call9 (rs := [10, 11, 12, 13, 14, 15, 16, 17, 18, 34, 35, 36]) (fs := [(1, 9), (1, 10), (1, 11), (1, 12), (1, 13), (1, 14), (1, 15), (1, 16), (3, 2), (3, 3), (3, 4), (3, 5), (3, 6), (3, 7), (3, 8), (4, 1), (4, 2), (5, 6), (5, 7), (5, 8), (5, 9)]) Fr.rf hq_16 rfl rfl) hq_81 rfl rfl), hS, lv_sub hl [0, 1, 2] rfl⟩
        by_cases c_86 : (G_15.1 3 3) = 135
        · refine lv_tableIn (tgt := 156) hx hb dX7_read_72 (by rw [c_86]; decide) (by rw [c_86]; decide) (off := 84) (by rw [c_86]; decide) (by decide) ?_
          have c_86 : (G_15.1 3 3).toInt = 135 := xI_eq rfl rfl c_86
          refine lv_aload_n hx hb dX7_read_156 rfl (lv_at hl 2 rfl) ?_
          refine S_calli (va_runV (As := []) (rest := []) ⟨hx, hb, hml, hown, hts⟩ (k_rSlip_1 l D k A a z G_15  ((hq_16.r9 5 5 rfl rfl).trans ((hq_12.r9 5 5 rfl rfl).trans ((congrFun (congrFun (congrArg (fun q => q.2.2) eG_9) 5) 5).trans ((congrFun (congrFun (congrArg (fun q => q.2.2) eG_8) 5) 5).trans ((congrFun (congrFun (congrArg (fun q => q.2.2) eG_7) 5) 5).trans ((hq_4.r9 5 5 rfl rfl).trans (gp_re eG_1)))))))) (cwV 0 hts (gd_V hgd m862 m864 m24 m119 m865) rfl rfl rfl hd_X7_readSlip ⟨Nat.le_of_ble_eq_true rfl, Nat.le_of_ble_eq_true rfl⟩) (pre_W hW hB_G_15 hK hZ hS kd_5 rfl) rfl rfl hl.1 rfl (lv_room (Nat.le_of_ble_eq_true rfl)) dX7_read_157 ⟨Nat.le_of_ble_eq_true rfl, Nat.le_of_ble_eq_true rfl⟩) hS (fun r_87 G_88 H locs hpo hW hS => ?_)
          have hX_91 : P_rSlip_1 G_15 r_87 G_88 := hpo
          obtain ⟨hB_G_88, hq_89, f_92, -⟩ := hpo
          have hF := hF.call9 hq_89 rfl rfl
          refine lv_istore_n (lv' := [(3, .int r_87), (4, .int x_19), (0, .ref (a 5))]) hx hb dX7_read_160 rfl hl (lt_b rfl) rfl (fun ls hl => ?_)
          refine lv_goto (tgt := 189) hx hb dX7_read_161 rfl ?_
          obtain ⟨y_93, ey_93⟩ : ∃ q, q = x_19 + 1 := ⟨_, rfl⟩
          have ty_93 : y_93.toInt = x_19.toInt + 1 := xI_add rfl rfl ey_93 ((by first | exact ok_21 f_24.1 | omega)) ((by first | exact ok_122 f_24.2 | omega))
          refine lv_iinc (v := y_93) (lv' := [(4, .int y_93), (3, .int r_87), (0, .ref (a 5))]) hx hb dX7_read_189 hl (k := 1) rfl (by rw [ey_93]; rfl) (lt_b rfl) rfl (fun ls hl => ?_)
          refine lv_goto (tgt := 40) hx hb dX7_read_192 rfl ?_
          exact ih_17 (1600 - y_93.toInt : Int).toNat ((by first | (clear ha_p0 f_25 c_27 c_29 c_86 f_92; omega) | omega)) _ _ _ ⟨G_88, y_93, r_87, (Int.toNat_of_nonneg ((by first | exact ok_388 f_24.2 c_28 ty_93 | omega))), ⟨(by first | exact ok_23 f_24.1 ty_93 | omega), (by first | exact ok_389 f_24.2 c_28 ty_93 | omega)⟩, ⟨(by first | exact f_92.1 | omega), (by first | exact f_92.2 | omega)⟩, (hX_21.st (St_k_rRead_1_1_mk ⟨x_19, x_20, G_15, y_93, r_87, G_88, rfl, rfl, f_24, f_25, hB_G_15, ⟨c_27, ⟨c_28, ⟨c_29, (Or.inr ⟨(xI_ne (Y := 128) rfl rfl c_30), (Or.inr ⟨(xI_ne (Y := 129) rfl rfl c_38), (Or.inr ⟨(xI_ne (Y := 130) rfl rfl c_46), (Or.inr ⟨(xI_ne (Y := 131) rfl rfl c_54), (Or.inr ⟨(xI_ne (Y := 132) rfl rfl c_62), (Or.inr ⟨(xI_ne (Y := 133) rfl rfl c_70), (Or.inr ⟨(xI_ne (Y := 134) rfl rfl c_78), (Or.inl ⟨c_86, ⟨r_87, G_88, hX_91, ⟨y_93, ty_93, ⟨rfl, rfl, rfl⟩⟩⟩⟩)⟩)⟩)⟩)⟩)⟩)⟩)⟩)⟩⟩⟩⟩)), hW, hB_G_88, hF, (Fr.call9 (rs := [10, 11, 12, 13, 14, 15, 16, 17, 18, 34, 35, 36]) (fs := [(1, 9), (1, 10), (1, 11), (1, 12), (1, 13), (1, 14), (1, 15), (1, 16), (3, 2), (3, 3), (3, 4), (3, 5), (3, 6), (3, 7), (3, 8), (4, 1), (4, 2), (5, 6), (5, 7), (5, 8), (5, 9)]) (Fr.call9 (rs := [10, 11, 12, 13, 14, 15, 16, 17, 18, 34, 35, 36]) (fs := [(1, 9), (1, 10), (1, 11), (1, 12), (1, 13), (1, 14), (1, 15), (1, 16), (3, 2), (3, 3), (3, 4), (3, 5), (3, 6), (3, 7), (3, 8), (4, 1), (4, 2), (5, 6), (5, 7), (5, 8), (5, 9)]) Fr.rf hq_16 rfl rfl) hq_89 rfl rfl), hS, lv_sub hl [0, 1, 2] rfl⟩
        by_cases c_94 : (G_15.1 3 3) = 136
        · refine lv_tableIn (tgt := 164) hx hb dX7_read_72 (by rw [c_94]; decide) (by rw [c_94]; decide) (off := 92) (by rw [c_94]; decide) (by decide) ?_
          have c_94 : (G_15.1 3 3).toInt = 136 := xI_eq rfl rfl c_94
          refine lv_aload_n hx hb dX7_read_164 rfl (lv_at hl 2 rfl) ?_
          refine S_calli (va_runV (As := []) (rest := []) ⟨hx, hb, hml, hown, hts⟩ (k_rHand_1 l D k A a z G_15  ((hq_16.r9 5 5 rfl rfl).trans ((hq_12.r9 5 5 rfl rfl).trans ((congrFun (congrFun (congrArg (fun q => q.2.2) eG_9) 5) 5).trans ((congrFun (congrFun (congrArg (fun q => q.2.2) eG_8) 5) 5).trans ((congrFun (congrFun (congrArg (fun q => q.2.2) eG_7) 5) 5).trans ((hq_4.r9 5 5 rfl rfl).trans (gp_re eG_1)))))))) (cwV 0 hts (gd_V hgd m866 m868 m25 m119 m869) rfl rfl rfl hd_X7_readHand ⟨Nat.le_of_ble_eq_true rfl, Nat.le_of_ble_eq_true rfl⟩) (pre_W hW hB_G_15 hK hZ hS kd_5 rfl) rfl rfl hl.1 rfl (lv_room (Nat.le_of_ble_eq_true rfl)) dX7_read_165 ⟨Nat.le_of_ble_eq_true rfl, Nat.le_of_ble_eq_true rfl⟩) hS (fun r_95 G_96 H locs hpo hW hS => ?_)
          have hX_99 : P_rHand_1 G_15 r_95 G_96 := hpo
          obtain ⟨hB_G_96, hq_97, f_100, -⟩ := hpo
          have hF := hF.call9 hq_97 rfl rfl
          refine lv_istore_n (lv' := [(3, .int r_95), (4, .int x_19), (0, .ref (a 5))]) hx hb dX7_read_168 rfl hl (lt_b rfl) rfl (fun ls hl => ?_)
          refine lv_goto (tgt := 189) hx hb dX7_read_169 rfl ?_
          obtain ⟨y_101, ey_101⟩ : ∃ q, q = x_19 + 1 := ⟨_, rfl⟩
          have ty_101 : y_101.toInt = x_19.toInt + 1 := xI_add rfl rfl ey_101 ((by first | exact ok_21 f_24.1 | omega)) ((by first | exact ok_122 f_24.2 | omega))
          refine lv_iinc (v := y_101) (lv' := [(4, .int y_101), (3, .int r_95), (0, .ref (a 5))]) hx hb dX7_read_189 hl (k := 1) rfl (by rw [ey_101]; rfl) (lt_b rfl) rfl (fun ls hl => ?_)
          refine lv_goto (tgt := 40) hx hb dX7_read_192 rfl ?_
          exact ih_17 (1600 - y_101.toInt : Int).toNat ((by first | (clear ha_p0 f_25 c_27 c_29 c_94 f_100; omega) | omega)) _ _ _ ⟨G_96, y_101, r_95, (Int.toNat_of_nonneg ((by first | exact ok_388 f_24.2 c_28 ty_101 | omega))), ⟨(by first | exact ok_23 f_24.1 ty_101 | omega), (by first | exact ok_389 f_24.2 c_28 ty_101 | omega)⟩, ⟨(by first | exact f_100.1 | omega), (by first | exact f_100.2 | omega)⟩, (hX_21.st (St_k_rRead_1_1_mk ⟨x_19, x_20, G_15, y_101, r_95, G_96, rfl, rfl, f_24, f_25, hB_G_15, ⟨c_27, ⟨c_28, ⟨c_29, (Or.inr ⟨(xI_ne (Y := 128) rfl rfl c_30), (Or.inr ⟨(xI_ne (Y := 129) rfl rfl c_38), (Or.inr ⟨(xI_ne (Y := 130) rfl rfl c_46), (Or.inr ⟨(xI_ne (Y := 131) rfl rfl c_54), (Or.inr ⟨(xI_ne (Y := 132) rfl rfl c_62), (Or.inr ⟨(xI_ne (Y := 133) rfl rfl c_70), (Or.inr ⟨(xI_ne (Y := 134) rfl rfl c_78), (Or.inr ⟨(xI_ne (Y := 135) rfl rfl c_86), (Or.inl ⟨c_94, ⟨r_95, G_96, hX_99, ⟨y_101, ty_101, ⟨rfl, rfl, rfl⟩⟩⟩⟩)⟩)⟩)⟩)⟩)⟩)⟩)⟩)⟩)⟩⟩⟩⟩)), hW, hB_G_96, hF, (Fr.call9 (rs := [10, 11, 12, 13, 14, 15, 16, 17, 18, 34, 35, 36]) (fs := [(1, 9), (1, 10), (1, 11), (1, 12), (1, 13), (1, 14), (1, 15), (1, 16), (3, 2), (3, 3), (3, 4), (3, 5), (3, 6), (3, 7), (3, 8), (4, 1), (4, 2), (5, 6), (5, 7), (5, 8), (5, 9)]) (Fr.call9 (rs := [10, 11, 12, 13, 14, 15, 16, 17, 18, 34, 35, 36]) (fs := [(1, 9), (1, 10), (1, 11), (1, 12), (1, 13), (1, 14), (1, 15), (1, 16), (3, 2), (3, 3), (3, 4), (3, 5), (3, 6), (3, 7), (3, 8), (4, 1), (4, 2), (5, 6), (5, 7), (5, 8), (5, 9)]) Fr.rf hq_16 rfl rfl) hq_97 rfl rfl), hS, lv_sub hl [0, 1, 2] rfl⟩
        by_cases c_102 : (G_15.1 3 3) = 137
        · refine lv_tableIn (tgt := 180) hx hb dX7_read_72 (by rw [c_102]; decide) (by rw [c_102]; decide) (off := 108) (by rw [c_102]; decide) (by decide) ?_
          have c_102 : (G_15.1 3 3).toInt = 137 := xI_eq rfl rfl c_102
          refine lv_aload_n hx hb dX7_read_180 rfl (lv_at hl 2 rfl) ?_
          refine S_getR (n := 3) (C := RX7) (T := TX7) (N := 10) hx hb hg iX7 hown hK hW kd_5 rfl 0 (lt_b rfl) (hg (Cond.fieldLink RX7 26 "SlabWalk$Reader" "tokens" "LSlabWalk$Tokens;") m311) (fun _ h9 => h9) rfl dX7_read_181 ?_
          refine ic_2 hx hb dX7_read_184 ?_
          refine S_calli (va_runV (As := [.int 2]) (rest := []) ⟨hx, hb, hml, hown, hts⟩ (k_tRefuse l D k A a z G_15 2 ⟨by decide, by decide⟩) (cwV 1 hts (gd_V hgd m778 m779 m780 m120 m781) rfl rfl rfl hd_X9_refuse ⟨Nat.le_of_ble_eq_true rfl, Nat.le_of_ble_eq_true rfl⟩) (pre_W hW hB_G_15 hK hZ hS kd_3 rfl) rfl rfl hl.1 rfl (lv_room (Nat.le_of_ble_eq_true rfl)) dX7_read_185 ⟨Nat.le_of_ble_eq_true rfl, Nat.le_of_ble_eq_true rfl⟩) hS (fun r_103 G_104 H locs hpo hW hS => ?_)
          have hX_107 : P_tRefuse 2 G_15 r_103 G_104 := hpo
          obtain ⟨hB_G_104, hq_105, f_108, -⟩ := hpo
          have hF := hF.call9 hq_105 rfl rfl
          refine lv_istore_n (lv' := [(3, .int r_103), (4, .int x_19), (0, .ref (a 5))]) hx hb dX7_read_188 rfl hl (lt_b rfl) rfl (fun ls hl => ?_)
          obtain ⟨y_109, ey_109⟩ : ∃ q, q = x_19 + 1 := ⟨_, rfl⟩
          have ty_109 : y_109.toInt = x_19.toInt + 1 := xI_add rfl rfl ey_109 ((by first | exact ok_21 f_24.1 | omega)) ((by first | exact ok_122 f_24.2 | omega))
          refine lv_iinc (v := y_109) (lv' := [(4, .int y_109), (3, .int r_103), (0, .ref (a 5))]) hx hb dX7_read_189 hl (k := 1) rfl (by rw [ey_109]; rfl) (lt_b rfl) rfl (fun ls hl => ?_)
          refine lv_goto (tgt := 40) hx hb dX7_read_192 rfl ?_
          exact ih_17 (1600 - y_109.toInt : Int).toNat ((by first | (clear ha_p0 f_25 c_27 c_29 c_102 f_108; omega) | omega)) _ _ _ ⟨G_104, y_109, r_103, (Int.toNat_of_nonneg ((by first | exact ok_388 f_24.2 c_28 ty_109 | omega))), ⟨(by first | exact ok_23 f_24.1 ty_109 | omega), (by first | exact ok_389 f_24.2 c_28 ty_109 | omega)⟩, ⟨(by first | exact f_108.1 | omega), (by first | exact ok_130 f_108.2 | omega)⟩, (hX_21.st (St_k_rRead_1_1_mk ⟨x_19, x_20, G_15, y_109, r_103, G_104, rfl, rfl, f_24, f_25, hB_G_15, ⟨c_27, ⟨c_28, ⟨c_29, (Or.inr ⟨(xI_ne (Y := 128) rfl rfl c_30), (Or.inr ⟨(xI_ne (Y := 129) rfl rfl c_38), (Or.inr ⟨(xI_ne (Y := 130) rfl rfl c_46), (Or.inr ⟨(xI_ne (Y := 131) rfl rfl c_54), (Or.inr ⟨(xI_ne (Y := 132) rfl rfl c_62), (Or.inr ⟨(xI_ne (Y := 133) rfl rfl c_70), (Or.inr ⟨(xI_ne (Y := 134) rfl rfl c_78), (Or.inr ⟨(xI_ne (Y := 135) rfl rfl c_86), (Or.inr ⟨(xI_ne (Y := 136) rfl rfl c_94), (Or.inl ⟨c_102, ⟨r_103, G_104, hX_107, ⟨y_109, ty_109, ⟨rfl, rfl, rfl⟩⟩⟩⟩)⟩)⟩)⟩)⟩)⟩)⟩)⟩)⟩)⟩)⟩⟩⟩⟩)), hW, hB_G_104, hF, (Fr.call9 (rs := [10, 11, 12, 13, 14, 15, 16, 17, 18, 34, 35, 36]) (fs := [(1, 9), (1, 10), (1, 11), (1, 12), (1, 13), (1, 14), (1, 15), (1, 16), (3, 2), (3, 3), (3, 4), (3, 5), (3, 6), (3, 7), (3, 8), (4, 1), (4, 2), (5, 6), (5, 7), (5, 8), (5, 9)]) (Fr.call9 (rs := [10, 11, 12, 13, 14, 15, 16, 17, 18, 34, 35, 36]) (fs := [(1, 9), (1, 10), (1, 11), (1, 12), (1, 13), (1, 14), (1, 15), (1, 16), (3, 2), (3, 3), (3, 4), (3, 5), (3, 6), (3, 7), (3, 8), (4, 1), (4, 2), (5, 6), (5, 7), (5, 8), (5, 9)]) Fr.rf hq_16 rfl rfl) hq_105 rfl rfl), hS, lv_sub hl [0, 1, 2] rfl⟩
        by_cases c_110 : (G_15.1 3 3) = 138
        · refine lv_tableIn (tgt := 172) hx hb dX7_read_72 (by rw [c_110]; decide) (by rw [c_110]; decide) (off := 100) (by rw [c_110]; decide) (by decide) ?_
          have c_110 : (G_15.1 3 3).toInt = 138 := xI_eq rfl rfl c_110
          refine lv_aload_n hx hb dX7_read_172 rfl (lv_at hl 2 rfl) ?_
          refine S_calli (va_runV (As := []) (rest := []) ⟨hx, hb, hml, hown, hts⟩ (k_rDraw_1 l D k A a z G_15  ((hq_16.r9 5 5 rfl rfl).trans ((hq_12.r9 5 5 rfl rfl).trans ((congrFun (congrFun (congrArg (fun q => q.2.2) eG_9) 5) 5).trans ((congrFun (congrFun (congrArg (fun q => q.2.2) eG_8) 5) 5).trans ((congrFun (congrFun (congrArg (fun q => q.2.2) eG_7) 5) 5).trans ((hq_4.r9 5 5 rfl rfl).trans (gp_re eG_1)))))))) (cwV 0 hts (gd_V hgd m870 m872 m26 m119 m873) rfl rfl rfl hd_X7_readDraw ⟨Nat.le_of_ble_eq_true rfl, Nat.le_of_ble_eq_true rfl⟩) (pre_W hW hB_G_15 hK hZ hS kd_5 rfl) rfl rfl hl.1 rfl (lv_room (Nat.le_of_ble_eq_true rfl)) dX7_read_173 ⟨Nat.le_of_ble_eq_true rfl, Nat.le_of_ble_eq_true rfl⟩) hS (fun r_111 G_112 H locs hpo hW hS => ?_)
          have hX_115 : P_rDraw_1 G_15 r_111 G_112 := hpo
          obtain ⟨hB_G_112, hq_113, f_116, -⟩ := hpo
          have hF := hF.call9 hq_113 rfl rfl
          refine lv_istore_n (lv' := [(3, .int r_111), (4, .int x_19), (0, .ref (a 5))]) hx hb dX7_read_176 rfl hl (lt_b rfl) rfl (fun ls hl => ?_)
          refine lv_goto (tgt := 189) hx hb dX7_read_177 rfl ?_
          obtain ⟨y_117, ey_117⟩ : ∃ q, q = x_19 + 1 := ⟨_, rfl⟩
          have ty_117 : y_117.toInt = x_19.toInt + 1 := xI_add rfl rfl ey_117 ((by first | exact ok_21 f_24.1 | omega)) ((by first | exact ok_122 f_24.2 | omega))
          refine lv_iinc (v := y_117) (lv' := [(4, .int y_117), (3, .int r_111), (0, .ref (a 5))]) hx hb dX7_read_189 hl (k := 1) rfl (by rw [ey_117]; rfl) (lt_b rfl) rfl (fun ls hl => ?_)
          refine lv_goto (tgt := 40) hx hb dX7_read_192 rfl ?_
          exact ih_17 (1600 - y_117.toInt : Int).toNat ((by first | (clear ha_p0 f_25 c_27 c_29 c_110 f_116; omega) | omega)) _ _ _ ⟨G_112, y_117, r_111, (Int.toNat_of_nonneg ((by first | exact ok_388 f_24.2 c_28 ty_117 | omega))), ⟨(by first | exact ok_23 f_24.1 ty_117 | omega), (by first | exact ok_389 f_24.2 c_28 ty_117 | omega)⟩, ⟨(by first | exact f_116.1 | omega), (by first | exact f_116.2 | omega)⟩, (hX_21.st (St_k_rRead_1_1_mk ⟨x_19, x_20, G_15, y_117, r_111, G_112, rfl, rfl, f_24, f_25, hB_G_15, ⟨c_27, ⟨c_28, ⟨c_29, (Or.inr ⟨(xI_ne (Y := 128) rfl rfl c_30), (Or.inr ⟨(xI_ne (Y := 129) rfl rfl c_38), (Or.inr ⟨(xI_ne (Y := 130) rfl rfl c_46), (Or.inr ⟨(xI_ne (Y := 131) rfl rfl c_54), (Or.inr ⟨(xI_ne (Y := 132) rfl rfl c_62), (Or.inr ⟨(xI_ne (Y := 133) rfl rfl c_70), (Or.inr ⟨(xI_ne (Y := 134) rfl rfl c_78), (Or.inr ⟨(xI_ne (Y := 135) rfl rfl c_86), (Or.inr ⟨(xI_ne (Y := 136) rfl rfl c_94), (Or.inr ⟨(xI_ne (Y := 137) rfl rfl c_102), (Or.inl ⟨c_110, ⟨r_111, G_112, hX_115, ⟨y_117, ty_117, ⟨rfl, rfl, rfl⟩⟩⟩⟩)⟩)⟩)⟩)⟩)⟩)⟩)⟩)⟩)⟩)⟩)⟩⟩⟩⟩)), hW, hB_G_112, hF, (Fr.call9 (rs := [10, 11, 12, 13, 14, 15, 16, 17, 18, 34, 35, 36]) (fs := [(1, 9), (1, 10), (1, 11), (1, 12), (1, 13), (1, 14), (1, 15), (1, 16), (3, 2), (3, 3), (3, 4), (3, 5), (3, 6), (3, 7), (3, 8), (4, 1), (4, 2), (5, 6), (5, 7), (5, 8), (5, 9)]) (Fr.call9 (rs := [10, 11, 12, 13, 14, 15, 16, 17, 18, 34, 35, 36]) (fs := [(1, 9), (1, 10), (1, 11), (1, 12), (1, 13), (1, 14), (1, 15), (1, 16), (3, 2), (3, 3), (3, 4), (3, 5), (3, 6), (3, 7), (3, 8), (4, 1), (4, 2), (5, 6), (5, 7), (5, 8), (5, 9)]) Fr.rf hq_16 rfl rfl) hq_113 rfl rfl), hS, lv_sub hl [0, 1, 2] rfl⟩
        refine lv_tableOut (tgt := 180) hx hb dX7_read_72 (tb_out (lo := 128) (hi := 138) (by have c_30 := xI_ne (Y := 128) rfl rfl c_30; have c_38 := xI_ne (Y := 129) rfl rfl c_38; have c_46 := xI_ne (Y := 130) rfl rfl c_46; have c_54 := xI_ne (Y := 131) rfl rfl c_54; have c_62 := xI_ne (Y := 132) rfl rfl c_62; have c_70 := xI_ne (Y := 133) rfl rfl c_70; have c_78 := xI_ne (Y := 134) rfl rfl c_78; have c_86 := xI_ne (Y := 135) rfl rfl c_86; have c_94 := xI_ne (Y := 136) rfl rfl c_94; have c_102 := xI_ne (Y := 137) rfl rfl c_102; have c_110 := xI_ne (Y := 138) rfl rfl c_110; omega)) (by decide) ?_
        have c_30 := xI_ne (Y := 128) rfl rfl c_30
        have c_38 := xI_ne (Y := 129) rfl rfl c_38
        have c_46 := xI_ne (Y := 130) rfl rfl c_46
        have c_54 := xI_ne (Y := 131) rfl rfl c_54
        have c_62 := xI_ne (Y := 132) rfl rfl c_62
        have c_70 := xI_ne (Y := 133) rfl rfl c_70
        have c_78 := xI_ne (Y := 134) rfl rfl c_78
        have c_86 := xI_ne (Y := 135) rfl rfl c_86
        have c_94 := xI_ne (Y := 136) rfl rfl c_94
        have c_102 := xI_ne (Y := 137) rfl rfl c_102
        have c_110 := xI_ne (Y := 138) rfl rfl c_110
        refine lv_aload_n hx hb dX7_read_180 rfl (lv_at hl 2 rfl) ?_
        refine S_getR (n := 3) (C := RX7) (T := TX7) (N := 10) hx hb hg iX7 hown hK hW kd_5 rfl 0 (lt_b rfl) (hg (Cond.fieldLink RX7 26 "SlabWalk$Reader" "tokens" "LSlabWalk$Tokens;") m311) (fun _ h9 => h9) rfl dX7_read_181 ?_
        refine ic_2 hx hb dX7_read_184 ?_
        refine S_calli (va_runV (As := [.int 2]) (rest := []) ⟨hx, hb, hml, hown, hts⟩ (k_tRefuse l D k A a z G_15 2 ⟨by decide, by decide⟩) (cwV 1 hts (gd_V hgd m778 m779 m780 m120 m781) rfl rfl rfl hd_X9_refuse ⟨Nat.le_of_ble_eq_true rfl, Nat.le_of_ble_eq_true rfl⟩) (pre_W hW hB_G_15 hK hZ hS kd_3 rfl) rfl rfl hl.1 rfl (lv_room (Nat.le_of_ble_eq_true rfl)) dX7_read_185 ⟨Nat.le_of_ble_eq_true rfl, Nat.le_of_ble_eq_true rfl⟩) hS (fun r_118 G_119 H locs hpo hW hS => ?_)
        have hX_122 : P_tRefuse 2 G_15 r_118 G_119 := hpo
        obtain ⟨hB_G_119, hq_120, f_123, -⟩ := hpo
        have hF := hF.call9 hq_120 rfl rfl
        refine lv_istore_n (lv' := [(3, .int r_118), (4, .int x_19), (0, .ref (a 5))]) hx hb dX7_read_188 rfl hl (lt_b rfl) rfl (fun ls hl => ?_)
        obtain ⟨y_124, ey_124⟩ : ∃ q, q = x_19 + 1 := ⟨_, rfl⟩
        have ty_124 : y_124.toInt = x_19.toInt + 1 := xI_add rfl rfl ey_124 ((by first | exact ok_21 f_24.1 | omega)) ((by first | exact ok_122 f_24.2 | omega))
        refine lv_iinc (v := y_124) (lv' := [(4, .int y_124), (3, .int r_118), (0, .ref (a 5))]) hx hb dX7_read_189 hl (k := 1) rfl (by rw [ey_124]; rfl) (lt_b rfl) rfl (fun ls hl => ?_)
        refine lv_goto (tgt := 40) hx hb dX7_read_192 rfl ?_
        exact ih_17 (1600 - y_124.toInt : Int).toNat ((by first | (clear ha_p0 f_25 c_27 c_29 f_123; omega) | omega)) _ _ _ ⟨G_119, y_124, r_118, (Int.toNat_of_nonneg ((by first | exact ok_388 f_24.2 c_28 ty_124 | omega))), ⟨(by first | exact ok_23 f_24.1 ty_124 | omega), (by first | exact ok_389 f_24.2 c_28 ty_124 | omega)⟩, ⟨(by first | exact f_123.1 | omega), (by first | exact ok_130 f_123.2 | omega)⟩, (hX_21.st (St_k_rRead_1_1_mk ⟨x_19, x_20, G_15, y_124, r_118, G_119, rfl, rfl, f_24, f_25, hB_G_15, ⟨c_27, ⟨c_28, ⟨c_29, (Or.inr ⟨c_30, (Or.inr ⟨c_38, (Or.inr ⟨c_46, (Or.inr ⟨c_54, (Or.inr ⟨c_62, (Or.inr ⟨c_70, (Or.inr ⟨c_78, (Or.inr ⟨c_86, (Or.inr ⟨c_94, (Or.inr ⟨c_102, (Or.inr ⟨c_110, ⟨r_118, G_119, hX_122, ⟨y_124, ty_124, ⟨rfl, rfl, rfl⟩⟩⟩⟩)⟩)⟩)⟩)⟩)⟩)⟩)⟩)⟩)⟩)⟩)⟩⟩⟩⟩)), hW, hB_G_119, hF, (Fr.call9 (rs := [10, 11, 12, 13, 14, 15, 16, 17, 18, 34, 35, 36]) (fs := [(1, 9), (1, 10), (1, 11), (1, 12), (1, 13), (1, 14), (1, 15), (1, 16), (3, 2), (3, 3), (3, 4), (3, 5), (3, 6), (3, 7), (3, 8), (4, 1), (4, 2), (5, 6), (5, 7), (5, 8), (5, 9)]) (Fr.call9 (rs := [10, 11, 12, 13, 14, 15, 16, 17, 18, 34, 35, 36]) (fs := [(1, 9), (1, 10), (1, 11), (1, 12), (1, 13), (1, 14), (1, 15), (1, 16), (3, 2), (3, 3), (3, 4), (3, 5), (3, 6), (3, 7), (3, 8), (4, 1), (4, 2), (5, 6), (5, 7), (5, 8), (5, 9)]) Fr.rf hq_16 rfl rfl) hq_120 rfl rfl), hS, lv_sub hl [0, 1, 2] rfl⟩
