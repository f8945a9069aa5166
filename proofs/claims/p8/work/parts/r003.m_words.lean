theorem m58 : Cond.selects RX12 yX12_mark yX12_mark ∈ gd := gds_4 10 rfl
theorem m1316 : Cond.fieldLink RX12 218 "SlabWalkModel" "fault" "I" ∈ gd := gdc_6_0 0 rfl gw_fieldLink
theorem m1317 : Cond.fieldLink RX12 13 "SlabWalkModel" "faultPlace" "I" ∈ gd := gdc_6_0 1 rfl gw_fieldLink
theorem m1623 : Cond.constantLong RX12 221 126943972648308 ∈ gd := gdc_7_4 3 rfl gw_constantLong
theorem m1644 : Cond.constantLong RX12 223 457135713908 ∈ gd := gdc_7_5 8 rfl gw_constantLong
theorem m1645 : Cond.constantLong RX12 225 131260314510706 ∈ gd := gdc_7_5 9 rfl gw_constantLong
theorem m1646 : Cond.constantLong RX12 227 1718579060 ∈ gd := gdc_7_5 10 rfl gw_constantLong
theorem m1647 : Cond.constantLong RX12 229 1937007984 ∈ gd := gdc_7_5 11 rfl gw_constantLong
theorem m1648 : Cond.constantLong RX12 231 29807 ∈ gd := gdc_7_5 12 rfl gw_constantLong
theorem m1649 : Cond.constantLong RX12 233 1818583408 ∈ gd := gdc_7_5 13 rfl gw_constantLong
theorem m1650 : Cond.constantLong RX12 235 1920298085 ∈ gd := gdc_7_5 14 rfl gw_constantLong
theorem m1651 : Cond.constantLong RX12 237 1936484720 ∈ gd := gdc_7_5 15 rfl gw_constantLong
theorem m1652 : Cond.constantLong RX12 239 1751215716 ∈ gd := gdc_7_6 0 rfl gw_constantLong
theorem m1653 : Cond.constantLong RX12 241 495739560811 ∈ gd := gdc_7_6 1 rfl gw_constantLong
theorem m1654 : Cond.constantLong RX12 243 1685217655 ∈ gd := gdc_7_6 2 rfl gw_constantLong
theorem m1655 : Cond.methodLink RX12 245 yX12_mark ∈ gd := gdc_7_6 3 rfl gw_methodLink
theorem m1657 : Cond.instanceMethod yX12_mark ∈ gd := gdc_7_6 5 rfl gw_instanceMethod
theorem m1658 : Cond.code yX12_mark cX12_mark 1 (some .int) ∈ gd := gdc_7_6 6 rfl gw_code
theorem m1659 : Cond.constantLong RX12 263 7497060 ∈ gd := gdc_7_6 7 rfl gw_constantLong
theorem m1660 : Cond.constantLong RX12 265 108243635103086 ∈ gd := gdc_7_6 8 rfl gw_constantLong
theorem m1661 : Cond.constantLong RX12 267 431415716206 ∈ gd := gdc_7_6 9 rfl gw_constantLong
theorem m1662 : Cond.constantLong RX12 269 495672452197 ∈ gd := gdc_7_6 10 rfl gw_constantLong
theorem m1663 : Cond.constantLong RX12 249 1819242087 ∈ gd := gdc_7_6 11 rfl gw_constantLong
theorem m1664 : Cond.constantLong RX12 251 7238760 ∈ gd := gdc_7_6 12 rfl gw_constantLong
theorem m1665 : Cond.constantLong RX12 253 1768842088 ∈ gd := gdc_7_6 13 rfl gw_constantLong
theorem m1666 : Cond.constantLong RX12 255 6578553 ∈ gd := gdc_7_6 14 rfl gw_constantLong
theorem m1667 : Cond.constantLong RX12 257 6385252 ∈ gd := gdc_7_6 15 rfl gw_constantLong
theorem m1668 : Cond.constantLong RX12 259 28530 ∈ gd := gdc_7_7 0 rfl gw_constantLong
theorem m1669 : Cond.constantLong RX12 261 7237492 ∈ gd := gdc_7_7 1 rfl gw_constantLong
def rbX12_isOwn_0 : List (Nat × List Nat) := [(0, [42]), (1, [180, 0, 198]), (4, [20, 0, 221]), (7, [148]), (8, [153, 0, 208]), (11, [42]), (12, [180, 0, 198]), (15, [20, 0, 223]), (18, [148]), (19, [153, 0, 197]), (22, [42]), (23, [180, 0, 198]), (26, [20, 0, 225]), (29, [148]), (30, [153, 0, 186]), (33, [42]), (34, [180, 0, 198]), (37, [20, 0, 227]), (40, [148]), (41, [153, 0, 175]), (44, [42]), (45, [180, 0, 198]), (48, [20, 0, 229]), (51, [148])]
theorem rcX12_isOwn_0 : dgo (lb cX12_isOwn) 0 rbX12_isOwn_0 = true := by decide +kernel
theorem dX12_isOwn_0 : decode cX12_isOwn 0 = .ok (.aload_n 0, 1) := dk_42 (dw rcX12_isOwn_0 0 rfl)
theorem dX12_isOwn_1 : decode cX12_isOwn 1 = .ok (.getfield 198, 3) := dk_180 (dw rcX12_isOwn_0 1 rfl) rfl
theorem dX12_isOwn_4 : decode cX12_isOwn 4 = .ok (.ldc2_w 221, 3) := dk_20 (dw rcX12_isOwn_0 2 rfl) rfl
theorem dX12_isOwn_7 : decode cX12_isOwn 7 = .ok (.lcmp, 1) := dk_148 (dw rcX12_isOwn_0 3 rfl)
theorem dX12_isOwn_8 : decode cX12_isOwn 8 = .ok (.ifCond .eq 208, 3) := dk_153 (dw rcX12_isOwn_0 4 rfl) rfl
theorem dX12_isOwn_11 : decode cX12_isOwn 11 = .ok (.aload_n 0, 1) := dk_42 (dw rcX12_isOwn_0 5 rfl)
theorem dX12_isOwn_12 : decode cX12_isOwn 12 = .ok (.getfield 198, 3) := dk_180 (dw rcX12_isOwn_0 6 rfl) rfl
theorem dX12_isOwn_15 : decode cX12_isOwn 15 = .ok (.ldc2_w 223, 3) := dk_20 (dw rcX12_isOwn_0 7 rfl) rfl
theorem dX12_isOwn_18 : decode cX12_isOwn 18 = .ok (.lcmp, 1) := dk_148 (dw rcX12_isOwn_0 8 rfl)
theorem dX12_isOwn_19 : decode cX12_isOwn 19 = .ok (.ifCond .eq 197, 3) := dk_153 (dw rcX12_isOwn_0 9 rfl) rfl
theorem dX12_isOwn_22 : decode cX12_isOwn 22 = .ok (.aload_n 0, 1) := dk_42 (dw rcX12_isOwn_0 10 rfl)
theorem dX12_isOwn_23 : decode cX12_isOwn 23 = .ok (.getfield 198, 3) := dk_180 (dw rcX12_isOwn_0 11 rfl) rfl
theorem dX12_isOwn_26 : decode cX12_isOwn 26 = .ok (.ldc2_w 225, 3) := dk_20 (dw rcX12_isOwn_0 12 rfl) rfl
theorem dX12_isOwn_29 : decode cX12_isOwn 29 = .ok (.lcmp, 1) := dk_148 (dw rcX12_isOwn_0 13 rfl)
theorem dX12_isOwn_30 : decode cX12_isOwn 30 = .ok (.ifCond .eq 186, 3) := dk_153 (dw rcX12_isOwn_0 14 rfl) rfl
theorem dX12_isOwn_33 : decode cX12_isOwn 33 = .ok (.aload_n 0, 1) := dk_42 (dw rcX12_isOwn_0 15 rfl)
theorem dX12_isOwn_34 : decode cX12_isOwn 34 = .ok (.getfield 198, 3) := dk_180 (dw rcX12_isOwn_0 16 rfl) rfl
theorem dX12_isOwn_37 : decode cX12_isOwn 37 = .ok (.ldc2_w 227, 3) := dk_20 (dw rcX12_isOwn_0 17 rfl) rfl
theorem dX12_isOwn_40 : decode cX12_isOwn 40 = .ok (.lcmp, 1) := dk_148 (dw rcX12_isOwn_0 18 rfl)
theorem dX12_isOwn_41 : decode cX12_isOwn 41 = .ok (.ifCond .eq 175, 3) := dk_153 (dw rcX12_isOwn_0 19 rfl) rfl
theorem dX12_isOwn_44 : decode cX12_isOwn 44 = .ok (.aload_n 0, 1) := dk_42 (dw rcX12_isOwn_0 20 rfl)
theorem dX12_isOwn_45 : decode cX12_isOwn 45 = .ok (.getfield 198, 3) := dk_180 (dw rcX12_isOwn_0 21 rfl) rfl
theorem dX12_isOwn_48 : decode cX12_isOwn 48 = .ok (.ldc2_w 229, 3) := dk_20 (dw rcX12_isOwn_0 22 rfl) rfl
theorem dX12_isOwn_51 : decode cX12_isOwn 51 = .ok (.lcmp, 1) := dk_148 (dw rcX12_isOwn_0 23 rfl)
def rbX12_isOwn_52 : List (Nat × List Nat) := [(52, [153, 0, 164]), (55, [42]), (56, [180, 0, 198]), (59, [20, 0, 231]), (62, [148]), (63, [153, 0, 153]), (66, [42]), (67, [180, 0, 198]), (70, [20, 0, 233]), (73, [148]), (74, [153, 0, 142]), (77, [42]), (78, [180, 0, 198]), (81, [20, 0, 235]), (84, [148]), (85, [153, 0, 131]), (88, [42]), (89, [180, 0, 198]), (92, [20, 0, 237]), (95, [148]), (96, [153, 0, 120]), (99, [42]), (100, [180, 0, 198]), (103, [20, 0, 239])]
theorem rcX12_isOwn_52 : dgo (lb cX12_isOwn) 0 rbX12_isOwn_52 = true := by decide +kernel
theorem dX12_isOwn_52 : decode cX12_isOwn 52 = .ok (.ifCond .eq 164, 3) := dk_153 (dw rcX12_isOwn_52 0 rfl) rfl
theorem dX12_isOwn_55 : decode cX12_isOwn 55 = .ok (.aload_n 0, 1) := dk_42 (dw rcX12_isOwn_52 1 rfl)
theorem dX12_isOwn_56 : decode cX12_isOwn 56 = .ok (.getfield 198, 3) := dk_180 (dw rcX12_isOwn_52 2 rfl) rfl
theorem dX12_isOwn_59 : decode cX12_isOwn 59 = .ok (.ldc2_w 231, 3) := dk_20 (dw rcX12_isOwn_52 3 rfl) rfl
theorem dX12_isOwn_62 : decode cX12_isOwn 62 = .ok (.lcmp, 1) := dk_148 (dw rcX12_isOwn_52 4 rfl)
theorem dX12_isOwn_63 : decode cX12_isOwn 63 = .ok (.ifCond .eq 153, 3) := dk_153 (dw rcX12_isOwn_52 5 rfl) rfl
theorem dX12_isOwn_66 : decode cX12_isOwn 66 = .ok (.aload_n 0, 1) := dk_42 (dw rcX12_isOwn_52 6 rfl)
theorem dX12_isOwn_67 : decode cX12_isOwn 67 = .ok (.getfield 198, 3) := dk_180 (dw rcX12_isOwn_52 7 rfl) rfl
theorem dX12_isOwn_70 : decode cX12_isOwn 70 = .ok (.ldc2_w 233, 3) := dk_20 (dw rcX12_isOwn_52 8 rfl) rfl
theorem dX12_isOwn_73 : decode cX12_isOwn 73 = .ok (.lcmp, 1) := dk_148 (dw rcX12_isOwn_52 9 rfl)
theorem dX12_isOwn_74 : decode cX12_isOwn 74 = .ok (.ifCond .eq 142, 3) := dk_153 (dw rcX12_isOwn_52 10 rfl) rfl
theorem dX12_isOwn_77 : decode cX12_isOwn 77 = .ok (.aload_n 0, 1) := dk_42 (dw rcX12_isOwn_52 11 rfl)
theorem dX12_isOwn_78 : decode cX12_isOwn 78 = .ok (.getfield 198, 3) := dk_180 (dw rcX12_isOwn_52 12 rfl) rfl
theorem dX12_isOwn_81 : decode cX12_isOwn 81 = .ok (.ldc2_w 235, 3) := dk_20 (dw rcX12_isOwn_52 13 rfl) rfl
theorem dX12_isOwn_84 : decode cX12_isOwn 84 = .ok (.lcmp, 1) := dk_148 (dw rcX12_isOwn_52 14 rfl)
theorem dX12_isOwn_85 : decode cX12_isOwn 85 = .ok (.ifCond .eq 131, 3) := dk_153 (dw rcX12_isOwn_52 15 rfl) rfl
theorem dX12_isOwn_88 : decode cX12_isOwn 88 = .ok (.aload_n 0, 1) := dk_42 (dw rcX12_isOwn_52 16 rfl)
theorem dX12_isOwn_89 : decode cX12_isOwn 89 = .ok (.getfield 198, 3) := dk_180 (dw rcX12_isOwn_52 17 rfl) rfl
theorem dX12_isOwn_92 : decode cX12_isOwn 92 = .ok (.ldc2_w 237, 3) := dk_20 (dw rcX12_isOwn_52 18 rfl) rfl
theorem dX12_isOwn_95 : decode cX12_isOwn 95 = .ok (.lcmp, 1) := dk_148 (dw rcX12_isOwn_52 19 rfl)
theorem dX12_isOwn_96 : decode cX12_isOwn 96 = .ok (.ifCond .eq 120, 3) := dk_153 (dw rcX12_isOwn_52 20 rfl) rfl
theorem dX12_isOwn_99 : decode cX12_isOwn 99 = .ok (.aload_n 0, 1) := dk_42 (dw rcX12_isOwn_52 21 rfl)
theorem dX12_isOwn_100 : decode cX12_isOwn 100 = .ok (.getfield 198, 3) := dk_180 (dw rcX12_isOwn_52 22 rfl) rfl
theorem dX12_isOwn_103 : decode cX12_isOwn 103 = .ok (.ldc2_w 239, 3) := dk_20 (dw rcX12_isOwn_52 23 rfl) rfl
def rbX12_isOwn_106 : List (Nat × List Nat) := [(106, [148]), (107, [153, 0, 109]), (110, [42]), (111, [180, 0, 198]), (114, [20, 0, 241]), (117, [148]), (118, [153, 0, 98]), (121, [42]), (122, [180, 0, 198]), (125, [20, 0, 243]), (128, [148]), (129, [153, 0, 87]), (132, [42]), (133, [182, 0, 245]), (136, [157, 0, 80]), (139, [42]), (140, [180, 0, 198]), (143, [20, 0, 249]), (146, [148]), (147, [153, 0, 69]), (150, [42]), (151, [180, 0, 198]), (154, [20, 0, 251]), (157, [148])]
theorem rcX12_isOwn_106 : dgo (lb cX12_isOwn) 0 rbX12_isOwn_106 = true := by decide +kernel
theorem dX12_isOwn_106 : decode cX12_isOwn 106 = .ok (.lcmp, 1) := dk_148 (dw rcX12_isOwn_106 0 rfl)
theorem dX12_isOwn_107 : decode cX12_isOwn 107 = .ok (.ifCond .eq 109, 3) := dk_153 (dw rcX12_isOwn_106 1 rfl) rfl
theorem dX12_isOwn_110 : decode cX12_isOwn 110 = .ok (.aload_n 0, 1) := dk_42 (dw rcX12_isOwn_106 2 rfl)
theorem dX12_isOwn_111 : decode cX12_isOwn 111 = .ok (.getfield 198, 3) := dk_180 (dw rcX12_isOwn_106 3 rfl) rfl
theorem dX12_isOwn_114 : decode cX12_isOwn 114 = .ok (.ldc2_w 241, 3) := dk_20 (dw rcX12_isOwn_106 4 rfl) rfl
theorem dX12_isOwn_117 : decode cX12_isOwn 117 = .ok (.lcmp, 1) := dk_148 (dw rcX12_isOwn_106 5 rfl)
theorem dX12_isOwn_118 : decode cX12_isOwn 118 = .ok (.ifCond .eq 98, 3) := dk_153 (dw rcX12_isOwn_106 6 rfl) rfl
theorem dX12_isOwn_121 : decode cX12_isOwn 121 = .ok (.aload_n 0, 1) := dk_42 (dw rcX12_isOwn_106 7 rfl)
theorem dX12_isOwn_122 : decode cX12_isOwn 122 = .ok (.getfield 198, 3) := dk_180 (dw rcX12_isOwn_106 8 rfl) rfl
theorem dX12_isOwn_125 : decode cX12_isOwn 125 = .ok (.ldc2_w 243, 3) := dk_20 (dw rcX12_isOwn_106 9 rfl) rfl
theorem dX12_isOwn_128 : decode cX12_isOwn 128 = .ok (.lcmp, 1) := dk_148 (dw rcX12_isOwn_106 10 rfl)
theorem dX12_isOwn_129 : decode cX12_isOwn 129 = .ok (.ifCond .eq 87, 3) := dk_153 (dw rcX12_isOwn_106 11 rfl) rfl
theorem dX12_isOwn_132 : decode cX12_isOwn 132 = .ok (.aload_n 0, 1) := dk_42 (dw rcX12_isOwn_106 12 rfl)
theorem dX12_isOwn_133 : decode cX12_isOwn 133 = .ok (.invokevirtual 245, 3) := dk_182 (dw rcX12_isOwn_106 13 rfl) rfl
theorem dX12_isOwn_136 : decode cX12_isOwn 136 = .ok (.ifCond .gt 80, 3) := dk_157 (dw rcX12_isOwn_106 14 rfl) rfl
theorem dX12_isOwn_139 : decode cX12_isOwn 139 = .ok (.aload_n 0, 1) := dk_42 (dw rcX12_isOwn_106 15 rfl)
theorem dX12_isOwn_140 : decode cX12_isOwn 140 = .ok (.getfield 198, 3) := dk_180 (dw rcX12_isOwn_106 16 rfl) rfl
theorem dX12_isOwn_143 : decode cX12_isOwn 143 = .ok (.ldc2_w 249, 3) := dk_20 (dw rcX12_isOwn_106 17 rfl) rfl
theorem dX12_isOwn_146 : decode cX12_isOwn 146 = .ok (.lcmp, 1) := dk_148 (dw rcX12_isOwn_106 18 rfl)
theorem dX12_isOwn_147 : decode cX12_isOwn 147 = .ok (.ifCond .eq 69, 3) := dk_153 (dw rcX12_isOwn_106 19 rfl) rfl
theorem dX12_isOwn_150 : decode cX12_isOwn 150 = .ok (.aload_n 0, 1) := dk_42 (dw rcX12_isOwn_106 20 rfl)
theorem dX12_isOwn_151 : decode cX12_isOwn 151 = .ok (.getfield 198, 3) := dk_180 (dw rcX12_isOwn_106 21 rfl) rfl
theorem dX12_isOwn_154 : decode cX12_isOwn 154 = .ok (.ldc2_w 251, 3) := dk_20 (dw rcX12_isOwn_106 22 rfl) rfl
theorem dX12_isOwn_157 : decode cX12_isOwn 157 = .ok (.lcmp, 1) := dk_148 (dw rcX12_isOwn_106 23 rfl)
def rbX12_isOwn_158 : List (Nat × List Nat) := [(158, [153, 0, 58]), (161, [42]), (162, [180, 0, 198]), (165, [20, 0, 253]), (168, [148]), (169, [153, 0, 47]), (172, [42]), (173, [180, 0, 198]), (176, [20, 0, 255]), (179, [148]), (180, [153, 0, 36]), (183, [42]), (184, [180, 0, 198]), (187, [20, 1, 1]), (190, [148]), (191, [153, 0, 25]), (194, [42]), (195, [180, 0, 198]), (198, [20, 1, 3]), (201, [148]), (202, [153, 0, 14]), (205, [42]), (206, [180, 0, 198]), (209, [20, 1, 5])]
theorem rcX12_isOwn_158 : dgo (lb cX12_isOwn) 0 rbX12_isOwn_158 = true := by decide +kernel
theorem dX12_isOwn_158 : decode cX12_isOwn 158 = .ok (.ifCond .eq 58, 3) := dk_153 (dw rcX12_isOwn_158 0 rfl) rfl
theorem dX12_isOwn_161 : decode cX12_isOwn 161 = .ok (.aload_n 0, 1) := dk_42 (dw rcX12_isOwn_158 1 rfl)
theorem dX12_isOwn_162 : decode cX12_isOwn 162 = .ok (.getfield 198, 3) := dk_180 (dw rcX12_isOwn_158 2 rfl) rfl
theorem dX12_isOwn_165 : decode cX12_isOwn 165 = .ok (.ldc2_w 253, 3) := dk_20 (dw rcX12_isOwn_158 3 rfl) rfl
theorem dX12_isOwn_168 : decode cX12_isOwn 168 = .ok (.lcmp, 1) := dk_148 (dw rcX12_isOwn_158 4 rfl)
theorem dX12_isOwn_169 : decode cX12_isOwn 169 = .ok (.ifCond .eq 47, 3) := dk_153 (dw rcX12_isOwn_158 5 rfl) rfl
theorem dX12_isOwn_172 : decode cX12_isOwn 172 = .ok (.aload_n 0, 1) := dk_42 (dw rcX12_isOwn_158 6 rfl)
theorem dX12_isOwn_173 : decode cX12_isOwn 173 = .ok (.getfield 198, 3) := dk_180 (dw rcX12_isOwn_158 7 rfl) rfl
theorem dX12_isOwn_176 : decode cX12_isOwn 176 = .ok (.ldc2_w 255, 3) := dk_20 (dw rcX12_isOwn_158 8 rfl) rfl
theorem dX12_isOwn_179 : decode cX12_isOwn 179 = .ok (.lcmp, 1) := dk_148 (dw rcX12_isOwn_158 9 rfl)
theorem dX12_isOwn_180 : decode cX12_isOwn 180 = .ok (.ifCond .eq 36, 3) := dk_153 (dw rcX12_isOwn_158 10 rfl) rfl
theorem dX12_isOwn_183 : decode cX12_isOwn 183 = .ok (.aload_n 0, 1) := dk_42 (dw rcX12_isOwn_158 11 rfl)
theorem dX12_isOwn_184 : decode cX12_isOwn 184 = .ok (.getfield 198, 3) := dk_180 (dw rcX12_isOwn_158 12 rfl) rfl
theorem dX12_isOwn_187 : decode cX12_isOwn 187 = .ok (.ldc2_w 257, 3) := dk_20 (dw rcX12_isOwn_158 13 rfl) rfl
theorem dX12_isOwn_190 : decode cX12_isOwn 190 = .ok (.lcmp, 1) := dk_148 (dw rcX12_isOwn_158 14 rfl)
theorem dX12_isOwn_191 : decode cX12_isOwn 191 = .ok (.ifCond .eq 25, 3) := dk_153 (dw rcX12_isOwn_158 15 rfl) rfl
theorem dX12_isOwn_194 : decode cX12_isOwn 194 = .ok (.aload_n 0, 1) := dk_42 (dw rcX12_isOwn_158 16 rfl)
theorem dX12_isOwn_195 : decode cX12_isOwn 195 = .ok (.getfield 198, 3) := dk_180 (dw rcX12_isOwn_158 17 rfl) rfl
theorem dX12_isOwn_198 : decode cX12_isOwn 198 = .ok (.ldc2_w 259, 3) := dk_20 (dw rcX12_isOwn_158 18 rfl) rfl
theorem dX12_isOwn_201 : decode cX12_isOwn 201 = .ok (.lcmp, 1) := dk_148 (dw rcX12_isOwn_158 19 rfl)
theorem dX12_isOwn_202 : decode cX12_isOwn 202 = .ok (.ifCond .eq 14, 3) := dk_153 (dw rcX12_isOwn_158 20 rfl) rfl
theorem dX12_isOwn_205 : decode cX12_isOwn 205 = .ok (.aload_n 0, 1) := dk_42 (dw rcX12_isOwn_158 21 rfl)
theorem dX12_isOwn_206 : decode cX12_isOwn 206 = .ok (.getfield 198, 3) := dk_180 (dw rcX12_isOwn_158 22 rfl) rfl
theorem dX12_isOwn_209 : decode cX12_isOwn 209 = .ok (.ldc2_w 261, 3) := dk_20 (dw rcX12_isOwn_158 23 rfl) rfl
def rbX12_isOwn_212 : List (Nat × List Nat) := [(212, [148]), (213, [154, 0, 7]), (216, [4]), (217, [167, 0, 4]), (220, [3]), (221, [172])]
theorem rcX12_isOwn_212 : dgo (lb cX12_isOwn) 0 rbX12_isOwn_212 = true := by decide +kernel
theorem dX12_isOwn_212 : decode cX12_isOwn 212 = .ok (.lcmp, 1) := dk_148 (dw rcX12_isOwn_212 0 rfl)
theorem dX12_isOwn_213 : decode cX12_isOwn 213 = .ok (.ifCond .ne 7, 3) := dk_154 (dw rcX12_isOwn_212 1 rfl) rfl
theorem dX12_isOwn_216 : decode cX12_isOwn 216 = .ok (.iconst 1, 1) := dk_4 (dw rcX12_isOwn_212 2 rfl)
theorem dX12_isOwn_217 : decode cX12_isOwn 217 = .ok (.goto 4, 3) := dk_167 (dw rcX12_isOwn_212 3 rfl) rfl
theorem dX12_isOwn_220 : decode cX12_isOwn 220 = .ok (.iconst 0, 1) := dk_3 (dw rcX12_isOwn_212 4 rfl)
theorem dX12_isOwn_221 : decode cX12_isOwn 221 = .ok (.ireturn, 1) := dk_172 (dw rcX12_isOwn_212 5 rfl)
def rbX12_isWord_0 : List (Nat × List Nat) := [(0, [42]), (1, [180, 0, 205]), (4, [4]), (5, [160, 0, 16]), (8, [42]), (9, [180, 0, 198]), (12, [31]), (13, [148]), (14, [154, 0, 7]), (17, [4]), (18, [167, 0, 4]), (21, [3]), (22, [172])]
theorem rcX12_isWord_0 : dgo (lb cX12_isWord) 0 rbX12_isWord_0 = true := by decide +kernel
theorem dX12_isWord_0 : decode cX12_isWord 0 = .ok (.aload_n 0, 1) := dk_42 (dw rcX12_isWord_0 0 rfl)
theorem dX12_isWord_1 : decode cX12_isWord 1 = .ok (.getfield 205, 3) := dk_180 (dw rcX12_isWord_0 1 rfl) rfl
theorem dX12_isWord_4 : decode cX12_isWord 4 = .ok (.iconst 1, 1) := dk_4 (dw rcX12_isWord_0 2 rfl)
theorem dX12_isWord_5 : decode cX12_isWord 5 = .ok (.if_icmp .ne 16, 3) := dk_160 (dw rcX12_isWord_0 3 rfl) rfl
theorem dX12_isWord_8 : decode cX12_isWord 8 = .ok (.aload_n 0, 1) := dk_42 (dw rcX12_isWord_0 4 rfl)
theorem dX12_isWord_9 : decode cX12_isWord 9 = .ok (.getfield 198, 3) := dk_180 (dw rcX12_isWord_0 5 rfl) rfl
theorem dX12_isWord_12 : decode cX12_isWord 12 = .ok (.lload_n 1, 1) := dk_31 (dw rcX12_isWord_0 6 rfl)
theorem dX12_isWord_13 : decode cX12_isWord 13 = .ok (.lcmp, 1) := dk_148 (dw rcX12_isWord_0 7 rfl)
theorem dX12_isWord_14 : decode cX12_isWord 14 = .ok (.ifCond .ne 7, 3) := dk_154 (dw rcX12_isWord_0 8 rfl) rfl
theorem dX12_isWord_17 : decode cX12_isWord 17 = .ok (.iconst 1, 1) := dk_4 (dw rcX12_isWord_0 9 rfl)
theorem dX12_isWord_18 : decode cX12_isWord 18 = .ok (.goto 4, 3) := dk_167 (dw rcX12_isWord_0 10 rfl) rfl
theorem dX12_isWord_21 : decode cX12_isWord 21 = .ok (.iconst 0, 1) := dk_3 (dw rcX12_isWord_0 11 rfl)
theorem dX12_isWord_22 : decode cX12_isWord 22 = .ok (.ireturn, 1) := dk_172 (dw rcX12_isWord_0 12 rfl)
def rbX12_mark_0 : List (Nat × List Nat) := [(0, [42]), (1, [180, 0, 198]), (4, [20, 1, 7]), (7, [148]), (8, [154, 0, 7]), (11, [4]), (12, [167, 0, 50]), (15, [42]), (16, [180, 0, 198]), (19, [20, 1, 9]), (22, [148]), (23, [154, 0, 7]), (26, [5]), (27, [167, 0, 35]), (30, [42]), (31, [180, 0, 198]), (34, [20, 1, 11]), (37, [148]), (38, [154, 0, 7]), (41, [7]), (42, [167, 0, 20]), (45, [42]), (46, [180, 0, 198]), (49, [20, 1, 13])]
theorem rcX12_mark_0 : dgo (lb cX12_mark) 0 rbX12_mark_0 = true := by decide +kernel
theorem dX12_mark_0 : decode cX12_mark 0 = .ok (.aload_n 0, 1) := dk_42 (dw rcX12_mark_0 0 rfl)
theorem dX12_mark_1 : decode cX12_mark 1 = .ok (.getfield 198, 3) := dk_180 (dw rcX12_mark_0 1 rfl) rfl
theorem dX12_mark_4 : decode cX12_mark 4 = .ok (.ldc2_w 263, 3) := dk_20 (dw rcX12_mark_0 2 rfl) rfl
theorem dX12_mark_7 : decode cX12_mark 7 = .ok (.lcmp, 1) := dk_148 (dw rcX12_mark_0 3 rfl)
theorem dX12_mark_8 : decode cX12_mark 8 = .ok (.ifCond .ne 7, 3) := dk_154 (dw rcX12_mark_0 4 rfl) rfl
theorem dX12_mark_11 : decode cX12_mark 11 = .ok (.iconst 1, 1) := dk_4 (dw rcX12_mark_0 5 rfl)
theorem dX12_mark_12 : decode cX12_mark 12 = .ok (.goto 50, 3) := dk_167 (dw rcX12_mark_0 6 rfl) rfl
theorem dX12_mark_15 : decode cX12_mark 15 = .ok (.aload_n 0, 1) := dk_42 (dw rcX12_mark_0 7 rfl)
theorem dX12_mark_16 : decode cX12_mark 16 = .ok (.getfield 198, 3) := dk_180 (dw rcX12_mark_0 8 rfl) rfl
theorem dX12_mark_19 : decode cX12_mark 19 = .ok (.ldc2_w 265, 3) := dk_20 (dw rcX12_mark_0 9 rfl) rfl
theorem dX12_mark_22 : decode cX12_mark 22 = .ok (.lcmp, 1) := dk_148 (dw rcX12_mark_0 10 rfl)
theorem dX12_mark_23 : decode cX12_mark 23 = .ok (.ifCond .ne 7, 3) := dk_154 (dw rcX12_mark_0 11 rfl) rfl
theorem dX12_mark_26 : decode cX12_mark 26 = .ok (.iconst 2, 1) := dk_5 (dw rcX12_mark_0 12 rfl)
theorem dX12_mark_27 : decode cX12_mark 27 = .ok (.goto 35, 3) := dk_167 (dw rcX12_mark_0 13 rfl) rfl
theorem dX12_mark_30 : decode cX12_mark 30 = .ok (.aload_n 0, 1) := dk_42 (dw rcX12_mark_0 14 rfl)
theorem dX12_mark_31 : decode cX12_mark 31 = .ok (.getfield 198, 3) := dk_180 (dw rcX12_mark_0 15 rfl) rfl
theorem dX12_mark_34 : decode cX12_mark 34 = .ok (.ldc2_w 267, 3) := dk_20 (dw rcX12_mark_0 16 rfl) rfl
theorem dX12_mark_37 : decode cX12_mark 37 = .ok (.lcmp, 1) := dk_148 (dw rcX12_mark_0 17 rfl)
theorem dX12_mark_38 : decode cX12_mark 38 = .ok (.ifCond .ne 7, 3) := dk_154 (dw rcX12_mark_0 18 rfl) rfl
theorem dX12_mark_41 : decode cX12_mark 41 = .ok (.iconst 4, 1) := dk_7 (dw rcX12_mark_0 19 rfl)
theorem dX12_mark_42 : decode cX12_mark 42 = .ok (.goto 20, 3) := dk_167 (dw rcX12_mark_0 20 rfl) rfl
theorem dX12_mark_45 : decode cX12_mark 45 = .ok (.aload_n 0, 1) := dk_42 (dw rcX12_mark_0 21 rfl)
theorem dX12_mark_46 : decode cX12_mark 46 = .ok (.getfield 198, 3) := dk_180 (dw rcX12_mark_0 22 rfl) rfl
theorem dX12_mark_49 : decode cX12_mark 49 = .ok (.ldc2_w 269, 3) := dk_20 (dw rcX12_mark_0 23 rfl) rfl
def rbX12_mark_52 : List (Nat × List Nat) := [(52, [148]), (53, [154, 0, 8]), (56, [16, 8]), (58, [167, 0, 4]), (61, [3]), (62, [172])]
theorem rcX12_mark_52 : dgo (lb cX12_mark) 0 rbX12_mark_52 = true := by decide +kernel
theorem dX12_mark_52 : decode cX12_mark 52 = .ok (.lcmp, 1) := dk_148 (dw rcX12_mark_52 0 rfl)
theorem dX12_mark_53 : decode cX12_mark 53 = .ok (.ifCond .ne 8, 3) := dk_154 (dw rcX12_mark_52 1 rfl) rfl
theorem dX12_mark_56 : decode cX12_mark 56 = .ok (.bipush 8, 2) := dk_16 (dw rcX12_mark_52 2 rfl) rfl
theorem dX12_mark_58 : decode cX12_mark 58 = .ok (.goto 4, 3) := dk_167 (dw rcX12_mark_52 3 rfl) rfl
theorem dX12_mark_61 : decode cX12_mark 61 = .ok (.iconst 0, 1) := dk_3 (dw rcX12_mark_52 4 rfl)
theorem dX12_mark_62 : decode cX12_mark 62 = .ok (.ireturn, 1) := dk_172 (dw rcX12_mark_52 5 rfl)
def rbX12_wrong_0 : List (Nat × List Nat) := [(0, [42]), (1, [180, 0, 218]), (4, [158, 0, 4]), (7, [177]), (8, [42]), (9, [42]), (10, [180, 0, 205]), (13, [6]), (14, [160, 0, 7]), (17, [4]), (18, [167, 0, 4]), (21, [27]), (22, [181, 0, 218]), (25, [42]), (26, [42]), (27, [180, 0, 195]), (30, [181, 0, 13]), (33, [177])]
theorem rcX12_wrong_0 : dgo (lb cX12_wrong) 0 rbX12_wrong_0 = true := by decide +kernel
theorem dX12_wrong_0 : decode cX12_wrong 0 = .ok (.aload_n 0, 1) := dk_42 (dw rcX12_wrong_0 0 rfl)
theorem dX12_wrong_1 : decode cX12_wrong 1 = .ok (.getfield 218, 3) := dk_180 (dw rcX12_wrong_0 1 rfl) rfl
theorem dX12_wrong_4 : decode cX12_wrong 4 = .ok (.ifCond .le 4, 3) := dk_158 (dw rcX12_wrong_0 2 rfl) rfl
theorem dX12_wrong_7 : decode cX12_wrong 7 = .ok (.return_, 1) := dk_177 (dw rcX12_wrong_0 3 rfl)
theorem dX12_wrong_8 : decode cX12_wrong 8 = .ok (.aload_n 0, 1) := dk_42 (dw rcX12_wrong_0 4 rfl)
theorem dX12_wrong_9 : decode cX12_wrong 9 = .ok (.aload_n 0, 1) := dk_42 (dw rcX12_wrong_0 5 rfl)
theorem dX12_wrong_10 : decode cX12_wrong 10 = .ok (.getfield 205, 3) := dk_180 (dw rcX12_wrong_0 6 rfl) rfl
theorem dX12_wrong_13 : decode cX12_wrong 13 = .ok (.iconst 3, 1) := dk_6 (dw rcX12_wrong_0 7 rfl)
theorem dX12_wrong_14 : decode cX12_wrong 14 = .ok (.if_icmp .ne 7, 3) := dk_160 (dw rcX12_wrong_0 8 rfl) rfl
theorem dX12_wrong_17 : decode cX12_wrong 17 = .ok (.iconst 1, 1) := dk_4 (dw rcX12_wrong_0 9 rfl)
theorem dX12_wrong_18 : decode cX12_wrong 18 = .ok (.goto 4, 3) := dk_167 (dw rcX12_wrong_0 10 rfl) rfl
theorem dX12_wrong_21 : decode cX12_wrong 21 = .ok (.iload_n 1, 1) := dk_27 (dw rcX12_wrong_0 11 rfl)
theorem dX12_wrong_22 : decode cX12_wrong 22 = .ok (.putfield 218, 3) := dk_181 (dw rcX12_wrong_0 12 rfl) rfl
theorem dX12_wrong_25 : decode cX12_wrong 25 = .ok (.aload_n 0, 1) := dk_42 (dw rcX12_wrong_0 13 rfl)
theorem dX12_wrong_26 : decode cX12_wrong 26 = .ok (.aload_n 0, 1) := dk_42 (dw rcX12_wrong_0 14 rfl)
theorem dX12_wrong_27 : decode cX12_wrong 27 = .ok (.getfield 195, 3) := dk_180 (dw rcX12_wrong_0 15 rfl) rfl
theorem dX12_wrong_30 : decode cX12_wrong 30 = .ok (.putfield 13, 3) := dk_181 (dw rcX12_wrong_0 16 rfl) rfl
theorem dX12_wrong_33 : decode cX12_wrong 33 = .ok (.return_, 1) := dk_177 (dw rcX12_wrong_0 17 rfl)
def rbX12_wrongAt_0 : List (Nat × List Nat) := [(0, [42]), (1, [180, 0, 218]), (4, [158, 0, 4]), (7, [177]), (8, [42]), (9, [27]), (10, [181, 0, 218]), (13, [42]), (14, [28]), (15, [181, 0, 13]), (18, [177])]
theorem rcX12_wrongAt_0 : dgo (lb cX12_wrongAt) 0 rbX12_wrongAt_0 = true := by decide +kernel
theorem dX12_wrongAt_0 : decode cX12_wrongAt 0 = .ok (.aload_n 0, 1) := dk_42 (dw rcX12_wrongAt_0 0 rfl)
theorem dX12_wrongAt_1 : decode cX12_wrongAt 1 = .ok (.getfield 218, 3) := dk_180 (dw rcX12_wrongAt_0 1 rfl) rfl
theorem dX12_wrongAt_4 : decode cX12_wrongAt 4 = .ok (.ifCond .le 4, 3) := dk_158 (dw rcX12_wrongAt_0 2 rfl) rfl
theorem dX12_wrongAt_7 : decode cX12_wrongAt 7 = .ok (.return_, 1) := dk_177 (dw rcX12_wrongAt_0 3 rfl)
theorem dX12_wrongAt_8 : decode cX12_wrongAt 8 = .ok (.aload_n 0, 1) := dk_42 (dw rcX12_wrongAt_0 4 rfl)
theorem dX12_wrongAt_9 : decode cX12_wrongAt 9 = .ok (.iload_n 1, 1) := dk_27 (dw rcX12_wrongAt_0 5 rfl)
theorem dX12_wrongAt_10 : decode cX12_wrongAt 10 = .ok (.putfield 218, 3) := dk_181 (dw rcX12_wrongAt_0 6 rfl) rfl
theorem dX12_wrongAt_13 : decode cX12_wrongAt 13 = .ok (.aload_n 0, 1) := dk_42 (dw rcX12_wrongAt_0 7 rfl)
theorem dX12_wrongAt_14 : decode cX12_wrongAt 14 = .ok (.iload_n 2, 1) := dk_28 (dw rcX12_wrongAt_0 8 rfl)
theorem dX12_wrongAt_15 : decode cX12_wrongAt 15 = .ok (.putfield 13, 3) := dk_181 (dw rcX12_wrongAt_0 9 rfl) rfl
theorem dX12_wrongAt_18 : decode cX12_wrongAt 18 = .ok (.return_, 1) := dk_177 (dw rcX12_wrongAt_0 10 rfl)
set_option maxHeartbeats 4000000 in
set_option maxRecDepth 100000 in
theorem n_wrong (l : Launch) (D : va_G) (k : KT) (A : Nat → Prop) (a : Nat → Nat) (z : SK) (G : GS) (p0 : Int32) (ha_p0 : 1 ≤ p0.toInt ∧ p0.toInt ≤ 4) : Met l yX12_wrong (WS yX12_wrong cX12_wrong 2 none) ({ frames := 0, cells := 0, slots := 0, locals := 0 }) (va_Pc [.ref (a 66), .int p0] (cW D k A a z G)) (va_Qv (fun (G1 : GS) => Q_wrong p0 G G1) (fun (G1 : GS) t => Wd D k A a G1 t.heap) A) 0 0 A := by
  refine Met.ofW (cc := cX12_wrong) (maxL := 2) (ret := none) (by decide) rfl ?_
  intro p e s m args below meth c s₁ B hml hv
  obtain ⟨rfl, hW, hB_G, hK, hZ⟩ := hv
  have hx := B.exec
  have hb := B.bytes
  have hr := B.returns
  have hts := atoms_spec (ws := WS yX12_wrong cX12_wrong 2 none) B.pre
  have hgd : ∀ w ∈ gd, w ∈ WS yX12_wrong cX12_wrong 2 none := fun w h => List.mem_cons_of_mem _ h
  have hg : ∀ w ∈ gd, w.before _ s = true := fun w h => hts w (hgd w h)
  have hown : s.vm.findClass RX12 = some m.cls := findClass_of_methodNamed B.named
  have hS : va_S A s.heap s.heap [] := va_S.rf
  have hF : Fr [] [(66, 2), (66, 3)] G G := Fr.rf
  have hl := lv_entry ([.ref (a 66), .int p0]) (n := 2) (Nat.le_of_ble_eq_true rfl)
  rw [lg_entry_eq]
  generalize (lg_sl ([.ref (a 66), .int p0]) ++ List.replicate (2 - (lg_sl ([.ref (a 66), .int p0])).length) Slot.unset).toArray = ls at hl ⊢
  have hl : lv_has ls 2 [(0, .ref (a 66)), (1, .int p0)] := hl
  refine lv_aload_n hx hb dX12_wrong_0 rfl (lv_at hl 0 rfl) ?_
  have b_1 : 0 ≤ (G.1 66 2).toInt ∧ (G.1 66 2).toInt ≤ 4 := bd_66_2 hB_G
  refine S_getI (v := (G.1 66 2)) (C := RX12) (T := TX12) (N := 89) hx hb hg iX12 hown hK hW kd_66 rfl 2 (lt_b rfl) (hg (Cond.fieldLink RX12 218 "SlabWalkModel" "fault" "I") m1316) (fun _ h9 => h9) rfl rfl dX12_wrong_1 ?_
  refine lv_if_le (tgt := 8) hx hb dX12_wrong_4 rfl (fun c_2 => ?_) (fun c_2 => ?_)
  · have c_2 : (G.1 66 2).toInt ≤ 0 := xI_le rfl rfl c_2
    refine lv_aload_n hx hb dX12_wrong_8 rfl (lv_at hl 0 rfl) ?_
    refine lv_aload_n hx hb dX12_wrong_9 rfl (lv_at hl 0 rfl) ?_
    refine S_getI (v := (G.1 66 6)) (C := RX12) (T := TX12) (N := 89) hx hb hg iX12 hown hK hW kd_66 rfl 6 (lt_b rfl) (hg (Cond.fieldLink RX12 205 "SlabWalkModel" "sort" "I") m1320) (fun _ h9 => h9) rfl rfl dX12_wrong_10 ?_
    refine ic_3 hx hb dX12_wrong_13 ?_
    refine lv_icmp_ne (tgt := 21) hx hb dX12_wrong_14 rfl (fun c_3 => ?_) (fun c_3 => ?_)
    · have c_3 : (G.1 66 6).toInt ≠ 3 := xI_ne rfl rfl c_3
      refine lv_iload_n hx hb dX12_wrong_21 rfl (lv_at hl 1 rfl) ?_
      refine S_putI (ty := .int) (C := RX12) (T := TX12) (N := 89) hx hb hg iX12 tyX12 tyX12_ok nmX12 hown hK hW hS kd_66 rfl 2 (lt_b rfl) (hg (Cond.fieldLink RX12 218 "SlabWalkModel" "fault" "I") m1316) (fun _ h9 => h9) rfl (by decide +kernel) rfl rfl rfl dX12_wrong_22 (fun G_4 H locs eG_4 hW hS => ?_)
      have hB_G_4 : Bd G_4 := hB_G.put (V := p0.toInt) (lo := 0) (hi := 4) eG_4 rfl rfl rfl ((by first | (clear b_1 c_2 c_3; omega) | omega)) ((by first | (clear b_1 c_2 c_3; omega) | omega)) (hB_G.2.put eG_4 rfl)
      have hF := hF.put eG_4 (Or.inr (by decide))
      refine lv_aload_n hx hb dX12_wrong_25 rfl (lv_at hl 0 rfl) ?_
      refine lv_aload_n hx hb dX12_wrong_26 rfl (lv_at hl 0 rfl) ?_
      have b_5 : 0 ≤ (G.1 66 7).toInt ∧ (G.1 66 7).toInt ≤ 1600 := bd_66_7 hB_G
      refine S_getI (v := (G.1 66 7)) (C := RX12) (T := TX12) (N := 89) hx hb hg iX12 hown hK hW kd_66 rfl 7 (lt_b rfl) (hg (Cond.fieldLink RX12 195 "SlabWalkModel" "place" "I") m1321) (fun _ h9 => h9) rfl (gp_ne eG_4 (by decide)) dX12_wrong_27 ?_
      refine S_putI (ty := .int) (C := RX12) (T := TX12) (N := 89) hx hb hg iX12 tyX12 tyX12_ok nmX12 hown hK hW hS kd_66 rfl 3 (lt_b rfl) (hg (Cond.fieldLink RX12 13 "SlabWalkModel" "faultPlace" "I") m1317) (fun _ h9 => h9) rfl (by decide +kernel) rfl rfl rfl dX12_wrong_30 (fun G_6 H locs eG_6 hW hS => ?_)
      have hB_G_6 : Bd G_6 := hB_G_4.put (V := (G.1 66 7).toInt) (lo := (-1)) (hi := 1600) eG_6 rfl rfl rfl ((by first | (clear ha_p0 b_1 c_2 c_3; omega) | omega)) ((by first | (clear ha_p0 b_1 c_2 c_3; omega) | omega)) (hB_G_4.2.put eG_6 rfl)
      have hF := hF.put eG_6 (Or.inr (by decide))
      have g_7 : (G_6.1 66 2).toInt = p0.toInt := (congrArg Int32.toInt (show G_6.1 66 2 = p0 from ((gp_ne eG_6 (by decide)).trans (gp_eq eG_4))))
      exact W.vret hx hb hr (fun t ht _ => ⟨⟨G_6, rfl, (Q_wrong_mk ⟨hB_G_6, hF, ((by first | (clear b_1 c_2 c_3 b_5; omega) | omega)), (Or.inl ⟨c_2, (Or.inr ⟨c_3, ⟨(Fr.put (rs := []) (fs := [(66, 2), (66, 3)]) (Fr.put (rs := []) (fs := [(66, 2), (66, 3)]) Fr.rf eG_4 (Or.inr (by decide))) eG_6 (Or.inr (by decide))), ((gp_ne eG_6 (by decide)).trans (gp_eq eG_4)), (gp_eq eG_6)⟩⟩)⟩)⟩), wd_t ht hW⟩, hS.F ht⟩) hS.2.2 dX12_wrong_33
    · have c_3 : (G.1 66 6).toInt = 3 := xI_eq rfl rfl c_3
      refine ic_1 hx hb dX12_wrong_17 ?_
      refine lv_goto (tgt := 22) hx hb dX12_wrong_18 rfl ?_
      refine S_putI (ty := .int) (C := RX12) (T := TX12) (N := 89) hx hb hg iX12 tyX12 tyX12_ok nmX12 hown hK hW hS kd_66 rfl 2 (lt_b rfl) (hg (Cond.fieldLink RX12 218 "SlabWalkModel" "fault" "I") m1316) (fun _ h9 => h9) rfl (by decide +kernel) rfl rfl rfl dX12_wrong_22 (fun G_8 H locs eG_8 hW hS => ?_)
      have hB_G_8 : Bd G_8 := hB_G.put (V := 1) (lo := 0) (hi := 4) eG_8 rfl rfl rfl (by decide) (by decide) (hB_G.2.put eG_8 rfl)
      have hF := hF.put eG_8 (Or.inr (by decide))
      refine lv_aload_n hx hb dX12_wrong_25 rfl (lv_at hl 0 rfl) ?_
      refine lv_aload_n hx hb dX12_wrong_26 rfl (lv_at hl 0 rfl) ?_
      have b_9 : 0 ≤ (G.1 66 7).toInt ∧ (G.1 66 7).toInt ≤ 1600 := bd_66_7 hB_G
      refine S_getI (v := (G.1 66 7)) (C := RX12) (T := TX12) (N := 89) hx hb hg iX12 hown hK hW kd_66 rfl 7 (lt_b rfl) (hg (Cond.fieldLink RX12 195 "SlabWalkModel" "place" "I") m1321) (fun _ h9 => h9) rfl (gp_ne eG_8 (by decide)) dX12_wrong_27 ?_
      refine S_putI (ty := .int) (C := RX12) (T := TX12) (N := 89) hx hb hg iX12 tyX12 tyX12_ok nmX12 hown hK hW hS kd_66 rfl 3 (lt_b rfl) (hg (Cond.fieldLink RX12 13 "SlabWalkModel" "faultPlace" "I") m1317) (fun _ h9 => h9) rfl (by decide +kernel) rfl rfl rfl dX12_wrong_30 (fun G_10 H locs eG_10 hW hS => ?_)
      have hB_G_10 : Bd G_10 := hB_G_8.put (V := (G.1 66 7).toInt) (lo := (-1)) (hi := 1600) eG_10 rfl rfl rfl ((by first | (clear ha_p0 b_1 c_2 c_3; omega) | omega)) ((by first | (clear ha_p0 b_1 c_2 c_3; omega) | omega)) (hB_G_8.2.put eG_10 rfl)
      have hF := hF.put eG_10 (Or.inr (by decide))
      have g_11 : (G_10.1 66 2).toInt = 1 := (congrArg Int32.toInt (show G_10.1 66 2 = 1 from ((gp_ne eG_10 (by decide)).trans (gp_eq eG_8)))).trans rfl
      exact W.vret hx hb hr (fun t ht _ => ⟨⟨G_10, rfl, (Q_wrong_mk ⟨hB_G_10, hF, ((by first | (clear ha_p0 b_1 c_2 c_3 b_9; omega) | omega)), (Or.inl ⟨c_2, (Or.inl ⟨c_3, ⟨(Fr.put (rs := []) (fs := [(66, 2), (66, 3)]) (Fr.put (rs := []) (fs := [(66, 2), (66, 3)]) Fr.rf eG_8 (Or.inr (by decide))) eG_10 (Or.inr (by decide))), ((gp_ne eG_10 (by decide)).trans (gp_eq eG_8)), (gp_eq eG_10)⟩⟩)⟩)⟩), wd_t ht hW⟩, hS.F ht⟩) hS.2.2 dX12_wrong_33
  · have c_2 : 0 < (G.1 66 2).toInt := xI_nle rfl rfl c_2
    exact W.vret hx hb hr (fun t ht _ => ⟨⟨G, rfl, (Q_wrong_mk ⟨hB_G, hF, (by omega), (Or.inr ⟨c_2, rfl⟩)⟩), wd_t ht hW⟩, hS.F ht⟩) hS.2.2 dX12_wrong_7

set_option maxHeartbeats 4000000 in
set_option maxRecDepth 100000 in
theorem n_wrongAt (l : Launch) (D : va_G) (k : KT) (A : Nat → Prop) (a : Nat → Nat) (z : SK) (G : GS) (p0 : Int32) (p1 : Int32) (ha_p0 : 1 ≤ p0.toInt ∧ p0.toInt ≤ 4) (ha_p1 : -1 ≤ p1.toInt ∧ p1.toInt ≤ 1600) : Met l yX12_wrongAt (WS yX12_wrongAt cX12_wrongAt 3 none) ({ frames := 0, cells := 0, slots := 0, locals := 0 }) (va_Pc [.ref (a 66), .int p0, .int p1] (cW D k A a z G)) (va_Qv (fun (G1 : GS) => Q_wrongAt p0 p1 G G1) (fun (G1 : GS) t => Wd D k A a G1 t.heap) A) 0 0 A := by
  refine Met.ofW (cc := cX12_wrongAt) (maxL := 3) (ret := none) (by decide) rfl ?_
  intro p e s m args below meth c s₁ B hml hv
  obtain ⟨rfl, hW, hB_G, hK, hZ⟩ := hv
  have hx := B.exec
  have hb := B.bytes
  have hr := B.returns
  have hts := atoms_spec (ws := WS yX12_wrongAt cX12_wrongAt 3 none) B.pre
  have hgd : ∀ w ∈ gd, w ∈ WS yX12_wrongAt cX12_wrongAt 3 none := fun w h => List.mem_cons_of_mem _ h
  have hg : ∀ w ∈ gd, w.before _ s = true := fun w h => hts w (hgd w h)
  have hown : s.vm.findClass RX12 = some m.cls := findClass_of_methodNamed B.named
  have hS : va_S A s.heap s.heap [] := va_S.rf
  have hF : Fr [] [(66, 2), (66, 3)] G G := Fr.rf
  have hl := lv_entry ([.ref (a 66), .int p0, .int p1]) (n := 3) (Nat.le_of_ble_eq_true rfl)
  rw [lg_entry_eq]
  generalize (lg_sl ([.ref (a 66), .int p0, .int p1]) ++ List.replicate (3 - (lg_sl ([.ref (a 66), .int p0, .int p1])).length) Slot.unset).toArray = ls at hl ⊢
  have hl : lv_has ls 3 [(0, .ref (a 66)), (1, .int p0), (2, .int p1)] := hl
  refine lv_aload_n hx hb dX12_wrongAt_0 rfl (lv_at hl 0 rfl) ?_
  have b_1 : 0 ≤ (G.1 66 2).toInt ∧ (G.1 66 2).toInt ≤ 4 := bd_66_2 hB_G
  refine S_getI (v := (G.1 66 2)) (C := RX12) (T := TX12) (N := 89) hx hb hg iX12 hown hK hW kd_66 rfl 2 (lt_b rfl) (hg (Cond.fieldLink RX12 218 "SlabWalkModel" "fault" "I") m1316) (fun _ h9 => h9) rfl rfl dX12_wrongAt_1 ?_
  refine lv_if_le (tgt := 8) hx hb dX12_wrongAt_4 rfl (fun c_2 => ?_) (fun c_2 => ?_)
  · have c_2 : (G.1 66 2).toInt ≤ 0 := xI_le rfl rfl c_2
    refine lv_aload_n hx hb dX12_wrongAt_8 rfl (lv_at hl 0 rfl) ?_
    refine lv_iload_n hx hb dX12_wrongAt_9 rfl (lv_at hl 1 rfl) ?_
    refine S_putI (ty := .int) (C := RX12) (T := TX12) (N := 89) hx hb hg iX12 tyX12 tyX12_ok nmX12 hown hK hW hS kd_66 rfl 2 (lt_b rfl) (hg (Cond.fieldLink RX12 218 "SlabWalkModel" "fault" "I") m1316) (fun _ h9 => h9) rfl (by decide +kernel) rfl rfl rfl dX12_wrongAt_10 (fun G_3 H locs eG_3 hW hS => ?_)
    have hB_G_3 : Bd G_3 := hB_G.put (V := p0.toInt) (lo := 0) (hi := 4) eG_3 rfl rfl rfl ((by first | (clear ha_p1 b_1 c_2; omega) | omega)) ((by first | (clear ha_p1 b_1 c_2; omega) | omega)) (hB_G.2.put eG_3 rfl)
    have hF := hF.put eG_3 (Or.inr (by decide))
    refine lv_aload_n hx hb dX12_wrongAt_13 rfl (lv_at hl 0 rfl) ?_
    refine lv_iload_n hx hb dX12_wrongAt_14 rfl (lv_at hl 2 rfl) ?_
    refine S_putI (ty := .int) (C := RX12) (T := TX12) (N := 89) hx hb hg iX12 tyX12 tyX12_ok nmX12 hown hK hW hS kd_66 rfl 3 (lt_b rfl) (hg (Cond.fieldLink RX12 13 "SlabWalkModel" "faultPlace" "I") m1317) (fun _ h9 => h9) rfl (by decide +kernel) rfl rfl rfl dX12_wrongAt_15 (fun G_4 H locs eG_4 hW hS => ?_)
    have hB_G_4 : Bd G_4 := hB_G_3.put (V := p1.toInt) (lo := (-1)) (hi := 1600) eG_4 rfl rfl rfl ((by first | (clear ha_p0 b_1 c_2; omega) | omega)) ((by first | (clear ha_p0 b_1 c_2; omega) | omega)) (hB_G_3.2.put eG_4 rfl)
    have hF := hF.put eG_4 (Or.inr (by decide))
    have g_5 : (G_4.1 66 2).toInt = p0.toInt := (congrArg Int32.toInt (show G_4.1 66 2 = p0 from ((gp_ne eG_4 (by decide)).trans (gp_eq eG_3))))
    exact W.vret hx hb hr (fun t ht _ => ⟨⟨G_4, rfl, (Q_wrongAt_mk ⟨hB_G_4, hF, ((by first | (clear ha_p1 b_1 c_2; omega) | omega)), (Or.inl ⟨c_2, ⟨(Fr.put (rs := []) (fs := [(66, 2), (66, 3)]) (Fr.put (rs := []) (fs := [(66, 2), (66, 3)]) Fr.rf eG_3 (Or.inr (by decide))) eG_4 (Or.inr (by decide))), ((gp_ne eG_4 (by decide)).trans (gp_eq eG_3)), (gp_eq eG_4)⟩⟩)⟩), wd_t ht hW⟩, hS.F ht⟩) hS.2.2 dX12_wrongAt_18
  · have c_2 : 0 < (G.1 66 2).toInt := xI_nle rfl rfl c_2
    exact W.vret hx hb hr (fun t ht _ => ⟨⟨G, rfl, (Q_wrongAt_mk ⟨hB_G, hF, (by omega), (Or.inr ⟨c_2, rfl⟩)⟩), wd_t ht hW⟩, hS.F ht⟩) hS.2.2 dX12_wrongAt_7

set_option maxHeartbeats 4000000 in
set_option maxRecDepth 100000 in
theorem n_isWord (l : Launch) (D : va_G) (k : KT) (A : Nat → Prop) (a : Nat → Nat) (z : SK) (G : GS) (p0 : Int64)  : Met l yX12_isWord (WS yX12_isWord cX12_isWord 3 (some .boolean)) ({ frames := 0, cells := 0, slots := 0, locals := 0 }) (va_Pc [.ref (a 66), .long p0] (cW D k A a z G)) (va_Qi (fun (r : Int32) (G1 : GS) => Q_isWord p0 G r G1) (fun (G1 : GS) t => Wd D k A a G1 t.heap) A) 0 0 A := by
  refine Met.ofW (cc := cX12_isWord) (maxL := 3) (ret := (some .boolean)) (by decide) rfl ?_
  intro p e s m args below meth c s₁ B hml hv
  obtain ⟨rfl, hW, hB_G, hK, hZ⟩ := hv
  have hx := B.exec
  have hb := B.bytes
  have hr := B.returns
  have hts := atoms_spec (ws := WS yX12_isWord cX12_isWord 3 (some .boolean)) B.pre
  have hgd : ∀ w ∈ gd, w ∈ WS yX12_isWord cX12_isWord 3 (some .boolean) := fun w h => List.mem_cons_of_mem _ h
  have hg : ∀ w ∈ gd, w.before _ s = true := fun w h => hts w (hgd w h)
  have hown : s.vm.findClass RX12 = some m.cls := findClass_of_methodNamed B.named
  have hS : va_S A s.heap s.heap [] := va_S.rf
  have hF : Fr [] [] G G := Fr.rf
  have hl := lv_entry ([.ref (a 66), .long p0]) (n := 3) (Nat.le_of_ble_eq_true rfl)
  rw [lg_entry_eq]
  generalize (lg_sl ([.ref (a 66), .long p0]) ++ List.replicate (3 - (lg_sl ([.ref (a 66), .long p0])).length) Slot.unset).toArray = ls at hl ⊢
  have hl : lv_has ls 3 [(0, .ref (a 66)), (1, .long p0)] := hl
  refine lv_aload_n hx hb dX12_isWord_0 rfl (lv_at hl 0 rfl) ?_
  refine S_getI (v := (G.1 66 6)) (C := RX12) (T := TX12) (N := 89) hx hb hg iX12 hown hK hW kd_66 rfl 6 (lt_b rfl) (hg (Cond.fieldLink RX12 205 "SlabWalkModel" "sort" "I") m1320) (fun _ h9 => h9) rfl rfl dX12_isWord_1 ?_
  refine ic_1 hx hb dX12_isWord_4 ?_
  refine lv_icmp_ne (tgt := 21) hx hb dX12_isWord_5 rfl (fun c_1 => ?_) (fun c_1 => ?_)
  · have c_1 : (G.1 66 6).toInt ≠ 1 := xI_ne rfl rfl c_1
    refine ic_0 hx hb dX12_isWord_21 ?_
    exact W.zret (v := 0) hx hb hr (by decide) (fun t ht _ => ⟨⟨0, G, rfl, (Q_isWord_mk ⟨hB_G, hF, ⟨by decide, by decide⟩, (by have hq : (0 : Int32).toInt = 0 := rfl; (try dsimp only); omega), (Or.inr ⟨c_1, ⟨rfl, rfl⟩⟩)⟩), wd_t ht hW⟩, hS.F ht⟩) hS.2.2 dX12_isWord_22
  · have c_1 : (G.1 66 6).toInt = 1 := xI_eq rfl rfl c_1
    refine lv_aload_n hx hb dX12_isWord_8 rfl (lv_at hl 0 rfl) ?_
    obtain ⟨y_2, ey_2⟩ : ∃ q, G.2.1 66 9 = q := ⟨_, rfl⟩
    refine S_getL (v := y_2) (C := RX12) (T := TX12) (N := 89) hx hb hg iX12 hown hK hW kd_66 rfl 9 (lt_b rfl) (hg (Cond.fieldLink RX12 198 "SlabWalkModel" "word" "J") m1323) (fun _ h9 => h9) rfl ey_2 dX12_isWord_9 ?_
    refine lv_lload_n hx hb dX12_isWord_12 rfl (lv_at hl 1 rfl) ?_
    refine W.lcmp hx hb dX12_isWord_13 ?_
    refine lv_topi (fun y_3 ey_3 => ?_)
    have ty_3 := lcmp_rng ey_3
    refine lv_if_ne (tgt := 21) hx hb dX12_isWord_14 rfl (fun c_4 => ?_) (fun c_4 => ?_)
    · have c_4 : y_3.toInt ≠ 0 := xI_ne rfl rfl c_4
      refine ic_0 hx hb dX12_isWord_21 ?_
      exact W.zret (v := 0) hx hb hr (by decide) (fun t ht _ => ⟨⟨0, G, rfl, (Q_isWord_mk ⟨hB_G, hF, ⟨by decide, by decide⟩, (by have hq : (0 : Int32).toInt = 0 := rfl; (try dsimp only); omega), (Or.inl ⟨c_1, ⟨y_2, ey_2.symm, ⟨y_3, ey_3, (Or.inr ⟨c_4, ⟨rfl, rfl⟩⟩)⟩⟩⟩)⟩), wd_t ht hW⟩, hS.F ht⟩) hS.2.2 dX12_isWord_22
    · have c_4 : y_3.toInt = 0 := xI_eq rfl rfl c_4
      refine ic_1 hx hb dX12_isWord_17 ?_
      refine lv_goto (tgt := 22) hx hb dX12_isWord_18 rfl ?_
      exact W.zret (v := 1) hx hb hr (by decide) (fun t ht _ => ⟨⟨1, G, rfl, (Q_isWord_mk ⟨hB_G, hF, ⟨by decide, by decide⟩, (by have hq : (1 : Int32).toInt = 1 := rfl; (try dsimp only); omega), (Or.inl ⟨c_1, ⟨y_2, ey_2.symm, ⟨y_3, ey_3, (Or.inl ⟨c_4, ⟨rfl, rfl⟩⟩)⟩⟩⟩)⟩), wd_t ht hW⟩, hS.F ht⟩) hS.2.2 dX12_isWord_22

set_option maxHeartbeats 4000000 in
set_option maxRecDepth 100000 in
theorem n_mark (l : Launch) (D : va_G) (k : KT) (A : Nat → Prop) (a : Nat → Nat) (z : SK) (G : GS)   : Met l yX12_mark (WS yX12_mark cX12_mark 1 (some .int)) ({ frames := 0, cells := 0, slots := 0, locals := 0 }) (va_Pc [.ref (a 66)] (cW D k A a z G)) (va_Qi (fun (r : Int32) (G1 : GS) => Q_mark G r G1) (fun (G1 : GS) t => Wd D k A a G1 t.heap) A) 0 0 A := by
  refine Met.ofW (cc := cX12_mark) (maxL := 1) (ret := (some .int)) (by decide) rfl ?_
  intro p e s m args below meth c s₁ B hml hv
  obtain ⟨rfl, hW, hB_G, hK, hZ⟩ := hv
  have hx := B.exec
  have hb := B.bytes
  have hr := B.returns
  have hts := atoms_spec (ws := WS yX12_mark cX12_mark 1 (some .int)) B.pre
  have hgd : ∀ w ∈ gd, w ∈ WS yX12_mark cX12_mark 1 (some .int) := fun w h => List.mem_cons_of_mem _ h
  have hg : ∀ w ∈ gd, w.before _ s = true := fun w h => hts w (hgd w h)
  have hown : s.vm.findClass RX12 = some m.cls := findClass_of_methodNamed B.named
  have hS : va_S A s.heap s.heap [] := va_S.rf
  have hF : Fr [] [] G G := Fr.rf
  have hl := lv_entry ([.ref (a 66)]) (n := 1) (Nat.le_of_ble_eq_true rfl)
  rw [lg_entry_eq]
  generalize (lg_sl ([.ref (a 66)]) ++ List.replicate (1 - (lg_sl ([.ref (a 66)])).length) Slot.unset).toArray = ls at hl ⊢
  have hl : lv_has ls 1 [(0, .ref (a 66))] := hl
  refine lv_aload_n hx hb dX12_mark_0 rfl (lv_at hl 0 rfl) ?_
  obtain ⟨y_1, ey_1⟩ : ∃ q, G.2.1 66 9 = q := ⟨_, rfl⟩
  refine S_getL (v := y_1) (C := RX12) (T := TX12) (N := 89) hx hb hg iX12 hown hK hW kd_66 rfl 9 (lt_b rfl) (hg (Cond.fieldLink RX12 198 "SlabWalkModel" "word" "J") m1323) (fun _ h9 => h9) rfl ey_1 dX12_mark_1 ?_
  refine lv_ldc2 (v := 7497060) hx hb hown (hg (Cond.constantLong RX12 263 7497060) m1659) dX12_mark_4 ?_
  refine W.lcmp hx hb dX12_mark_7 ?_
  refine lv_topi (fun y_2 ey_2 => ?_)
  have ty_2 := lcmp_rng ey_2
  refine lv_if_ne (tgt := 15) hx hb dX12_mark_8 rfl (fun c_3 => ?_) (fun c_3 => ?_)
  · have c_3 : y_2.toInt ≠ 0 := xI_ne rfl rfl c_3
    refine lv_aload_n hx hb dX12_mark_15 rfl (lv_at hl 0 rfl) ?_
    obtain ⟨y_4, ey_4⟩ : ∃ q, G.2.1 66 9 = q := ⟨_, rfl⟩
    refine S_getL (v := y_4) (C := RX12) (T := TX12) (N := 89) hx hb hg iX12 hown hK hW kd_66 rfl 9 (lt_b rfl) (hg (Cond.fieldLink RX12 198 "SlabWalkModel" "word" "J") m1323) (fun _ h9 => h9) rfl ey_4 dX12_mark_16 ?_
    refine lv_ldc2 (v := 108243635103086) hx hb hown (hg (Cond.constantLong RX12 265 108243635103086) m1660) dX12_mark_19 ?_
    refine W.lcmp hx hb dX12_mark_22 ?_
    refine lv_topi (fun y_5 ey_5 => ?_)
    have ty_5 := lcmp_rng ey_5
    refine lv_if_ne (tgt := 30) hx hb dX12_mark_23 rfl (fun c_6 => ?_) (fun c_6 => ?_)
    · have c_6 : y_5.toInt ≠ 0 := xI_ne rfl rfl c_6
      refine lv_aload_n hx hb dX12_mark_30 rfl (lv_at hl 0 rfl) ?_
      obtain ⟨y_7, ey_7⟩ : ∃ q, G.2.1 66 9 = q := ⟨_, rfl⟩
      refine S_getL (v := y_7) (C := RX12) (T := TX12) (N := 89) hx hb hg iX12 hown hK hW kd_66 rfl 9 (lt_b rfl) (hg (Cond.fieldLink RX12 198 "SlabWalkModel" "word" "J") m1323) (fun _ h9 => h9) rfl ey_7 dX12_mark_31 ?_
      refine lv_ldc2 (v := 431415716206) hx hb hown (hg (Cond.constantLong RX12 267 431415716206) m1661) dX12_mark_34 ?_
      refine W.lcmp hx hb dX12_mark_37 ?_
      refine lv_topi (fun y_8 ey_8 => ?_)
      have ty_8 := lcmp_rng ey_8
      refine lv_if_ne (tgt := 45) hx hb dX12_mark_38 rfl (fun c_9 => ?_) (fun c_9 => ?_)
      · have c_9 : y_8.toInt ≠ 0 := xI_ne rfl rfl c_9
        refine lv_aload_n hx hb dX12_mark_45 rfl (lv_at hl 0 rfl) ?_
        obtain ⟨y_10, ey_10⟩ : ∃ q, G.2.1 66 9 = q := ⟨_, rfl⟩
        refine S_getL (v := y_10) (C := RX12) (T := TX12) (N := 89) hx hb hg iX12 hown hK hW kd_66 rfl 9 (lt_b rfl) (hg (Cond.fieldLink RX12 198 "SlabWalkModel" "word" "J") m1323) (fun _ h9 => h9) rfl ey_10 dX12_mark_46 ?_
        refine lv_ldc2 (v := 495672452197) hx hb hown (hg (Cond.constantLong RX12 269 495672452197) m1662) dX12_mark_49 ?_
        refine W.lcmp hx hb dX12_mark_52 ?_
        refine lv_topi (fun y_11 ey_11 => ?_)
        have ty_11 := lcmp_rng ey_11
        refine lv_if_ne (tgt := 61) hx hb dX12_mark_53 rfl (fun c_12 => ?_) (fun c_12 => ?_)
        · have c_12 : y_11.toInt ≠ 0 := xI_ne rfl rfl c_12
          refine ic_0 hx hb dX12_mark_61 ?_
          exact W.iret (v := 0) hx hb hr (fun t ht _ => ⟨⟨0, G, rfl, (Q_mark_mk ⟨hB_G, hF, ⟨by decide, by decide⟩, (by rw [mkW, if_neg (fun q => lc_ne ey_2 (by omega) (ey_1.symm.trans q)), if_neg (fun q => lc_ne ey_5 (by omega) (ey_4.symm.trans q)), if_neg (fun q => lc_ne ey_8 (by omega) (ey_7.symm.trans q)), if_neg (fun q => lc_ne ey_11 (by omega) (ey_10.symm.trans q))]; rfl), ⟨y_1, ey_1.symm, ⟨y_2, ey_2, (Or.inr ⟨c_3, ⟨y_4, ey_4.symm, ⟨y_5, ey_5, (Or.inr ⟨c_6, ⟨y_7, ey_7.symm, ⟨y_8, ey_8, (Or.inr ⟨c_9, ⟨y_10, ey_10.symm, ⟨y_11, ey_11, (Or.inr ⟨c_12, ⟨rfl, rfl⟩⟩)⟩⟩⟩)⟩⟩⟩)⟩⟩⟩)⟩⟩⟩), wd_t ht hW⟩, hS.F ht⟩) hS.2.2 dX12_mark_62
        · have c_12 : y_11.toInt = 0 := xI_eq rfl rfl c_12
          refine lv_bipush (v := 8) hx hb dX12_mark_56 (by decide) ?_
          refine lv_goto (tgt := 62) hx hb dX12_mark_58 rfl ?_
          exact W.iret (v := 8) hx hb hr (fun t ht _ => ⟨⟨8, G, rfl, (Q_mark_mk ⟨hB_G, hF, ⟨by decide, by decide⟩, (by rw [mkW, if_neg (fun q => lc_ne ey_2 (by omega) (ey_1.symm.trans q)), if_neg (fun q => lc_ne ey_5 (by omega) (ey_4.symm.trans q)), if_neg (fun q => lc_ne ey_8 (by omega) (ey_7.symm.trans q)), if_pos (ey_10.trans (lc_eq ey_11 (by omega)))]; rfl), ⟨y_1, ey_1.symm, ⟨y_2, ey_2, (Or.inr ⟨c_3, ⟨y_4, ey_4.symm, ⟨y_5, ey_5, (Or.inr ⟨c_6, ⟨y_7, ey_7.symm, ⟨y_8, ey_8, (Or.inr ⟨c_9, ⟨y_10, ey_10.symm, ⟨y_11, ey_11, (Or.inl ⟨c_12, ⟨rfl, rfl⟩⟩)⟩⟩⟩)⟩⟩⟩)⟩⟩⟩)⟩⟩⟩), wd_t ht hW⟩, hS.F ht⟩) hS.2.2 dX12_mark_62
      · have c_9 : y_8.toInt = 0 := xI_eq rfl rfl c_9
        refine ic_4 hx hb dX12_mark_41 ?_
        refine lv_goto (tgt := 62) hx hb dX12_mark_42 rfl ?_
        exact W.iret (v := 4) hx hb hr (fun t ht _ => ⟨⟨4, G, rfl, (Q_mark_mk ⟨hB_G, hF, ⟨by decide, by decide⟩, (by rw [mkW, if_neg (fun q => lc_ne ey_2 (by omega) (ey_1.symm.trans q)), if_neg (fun q => lc_ne ey_5 (by omega) (ey_4.symm.trans q)), if_pos (ey_7.trans (lc_eq ey_8 (by omega)))]; rfl), ⟨y_1, ey_1.symm, ⟨y_2, ey_2, (Or.inr ⟨c_3, ⟨y_4, ey_4.symm, ⟨y_5, ey_5, (Or.inr ⟨c_6, ⟨y_7, ey_7.symm, ⟨y_8, ey_8, (Or.inl ⟨c_9, ⟨rfl, rfl⟩⟩)⟩⟩⟩)⟩⟩⟩)⟩⟩⟩), wd_t ht hW⟩, hS.F ht⟩) hS.2.2 dX12_mark_62
    · have c_6 : y_5.toInt = 0 := xI_eq rfl rfl c_6
      refine ic_2 hx hb dX12_mark_26 ?_
      refine lv_goto (tgt := 62) hx hb dX12_mark_27 rfl ?_
      exact W.iret (v := 2) hx hb hr (fun t ht _ => ⟨⟨2, G, rfl, (Q_mark_mk ⟨hB_G, hF, ⟨by decide, by decide⟩, (by rw [mkW, if_neg (fun q => lc_ne ey_2 (by omega) (ey_1.symm.trans q)), if_pos (ey_4.trans (lc_eq ey_5 (by omega)))]; rfl), ⟨y_1, ey_1.symm, ⟨y_2, ey_2, (Or.inr ⟨c_3, ⟨y_4, ey_4.symm, ⟨y_5, ey_5, (Or.inl ⟨c_6, ⟨rfl, rfl⟩⟩)⟩⟩⟩)⟩⟩⟩), wd_t ht hW⟩, hS.F ht⟩) hS.2.2 dX12_mark_62
  · have c_3 : y_2.toInt = 0 := xI_eq rfl rfl c_3
    refine ic_1 hx hb dX12_mark_11 ?_
    refine lv_goto (tgt := 62) hx hb dX12_mark_12 rfl ?_
    exact W.iret (v := 1) hx hb hr (fun t ht _ => ⟨⟨1, G, rfl, (Q_mark_mk ⟨hB_G, hF, ⟨by decide, by decide⟩, (by rw [mkW, if_pos (ey_1.trans (lc_eq ey_2 (by omega)))]; rfl), ⟨y_1, ey_1.symm, ⟨y_2, ey_2, (Or.inl ⟨c_3, ⟨rfl, rfl⟩⟩)⟩⟩⟩), wd_t ht hW⟩, hS.F ht⟩) hS.2.2 dX12_mark_62

set_option maxHeartbeats 4000000 in
set_option maxRecDepth 100000 in
theorem n_isOwn (l : Launch) (D : va_G) (k : KT) (A : Nat → Prop) (a : Nat → Nat) (z : SK) (G : GS)   : Met l yX12_isOwn (WS yX12_isOwn cX12_isOwn 1 (some .boolean)) ({ frames := 1, cells := 0, slots := 0, locals := 20 }) (va_Pc [.ref (a 66)] (cW D k A a z G)) (va_Qi (fun (r : Int32) (G1 : GS) => Q_isOwn G r G1) (fun (G1 : GS) t => Wd D k A a G1 t.heap) A) 0 0 A := by
  refine Met.ofW (cc := cX12_isOwn) (maxL := 1) (ret := (some .boolean)) (by decide) rfl ?_
  intro p e s m args below meth c s₁ B hml hv
  obtain ⟨rfl, hW, hB_G, hK, hZ⟩ := hv
  have hx := B.exec
  have hb := B.bytes
  have hr := B.returns
  have hts := atoms_spec (ws := WS yX12_isOwn cX12_isOwn 1 (some .boolean)) B.pre
  have hgd : ∀ w ∈ gd, w ∈ WS yX12_isOwn cX12_isOwn 1 (some .boolean) := fun w h => List.mem_cons_of_mem _ h
  have hg : ∀ w ∈ gd, w.before _ s = true := fun w h => hts w (hgd w h)
  have hown : s.vm.findClass RX12 = some m.cls := findClass_of_methodNamed B.named
  have hS : va_S A s.heap s.heap [] := va_S.rf
  have hF : Fr [] [] G G := Fr.rf
  have hl := lv_entry ([.ref (a 66)]) (n := 1) (Nat.le_of_ble_eq_true rfl)
  rw [lg_entry_eq]
  generalize (lg_sl ([.ref (a 66)]) ++ List.replicate (1 - (lg_sl ([.ref (a 66)])).length) Slot.unset).toArray = ls at hl ⊢
  have hl : lv_has ls 1 [(0, .ref (a 66))] := hl
  refine lv_aload_n hx hb dX12_isOwn_0 rfl (lv_at hl 0 rfl) ?_
  obtain ⟨y_1, ey_1⟩ : ∃ q, G.2.1 66 9 = q := ⟨_, rfl⟩
  refine S_getL (v := y_1) (C := RX12) (T := TX12) (N := 89) hx hb hg iX12 hown hK hW kd_66 rfl 9 (lt_b rfl) (hg (Cond.fieldLink RX12 198 "SlabWalkModel" "word" "J") m1323) (fun _ h9 => h9) rfl ey_1 dX12_isOwn_1 ?_
  refine lv_ldc2 (v := 126943972648308) hx hb hown (hg (Cond.constantLong RX12 221 126943972648308) m1623) dX12_isOwn_4 ?_
  refine W.lcmp hx hb dX12_isOwn_7 ?_
  refine lv_topi (fun y_2 ey_2 => ?_)
  have ty_2 := lcmp_rng ey_2
  refine lv_if_eq (tgt := 216) hx hb dX12_isOwn_8 rfl (fun c_3 => ?_) (fun c_3 => ?_)
  · have c_3 : y_2.toInt = 0 := xI_eq rfl rfl c_3
    refine ic_1 hx hb dX12_isOwn_216 ?_
    refine lv_goto (tgt := 221) hx hb dX12_isOwn_217 rfl ?_
    exact W.zret (v := 1) hx hb hr (by decide) (fun t ht _ => ⟨⟨1, G, rfl, (Q_isOwn_mk ⟨hB_G, hF, ⟨by decide, by decide⟩, ⟨y_1, ey_1.symm, ⟨y_2, ey_2, (Or.inl ⟨c_3, ⟨rfl, rfl⟩⟩)⟩⟩⟩), wd_t ht hW⟩, hS.F ht⟩) hS.2.2 dX12_isOwn_221
  · have c_3 : y_2.toInt ≠ 0 := xI_ne rfl rfl c_3
    refine lv_aload_n hx hb dX12_isOwn_11 rfl (lv_at hl 0 rfl) ?_
    obtain ⟨y_4, ey_4⟩ : ∃ q, G.2.1 66 9 = q := ⟨_, rfl⟩
    refine S_getL (v := y_4) (C := RX12) (T := TX12) (N := 89) hx hb hg iX12 hown hK hW kd_66 rfl 9 (lt_b rfl) (hg (Cond.fieldLink RX12 198 "SlabWalkModel" "word" "J") m1323) (fun _ h9 => h9) rfl ey_4 dX12_isOwn_12 ?_
    refine lv_ldc2 (v := 457135713908) hx hb hown (hg (Cond.constantLong RX12 223 457135713908) m1644) dX12_isOwn_15 ?_
    refine W.lcmp hx hb dX12_isOwn_18 ?_
    refine lv_topi (fun y_5 ey_5 => ?_)
    have ty_5 := lcmp_rng ey_5
    refine lv_if_eq (tgt := 216) hx hb dX12_isOwn_19 rfl (fun c_6 => ?_) (fun c_6 => ?_)
    · have c_6 : y_5.toInt = 0 := xI_eq rfl rfl c_6
      refine ic_1 hx hb dX12_isOwn_216 ?_
      refine lv_goto (tgt := 221) hx hb dX12_isOwn_217 rfl ?_
      exact W.zret (v := 1) hx hb hr (by decide) (fun t ht _ => ⟨⟨1, G, rfl, (Q_isOwn_mk ⟨hB_G, hF, ⟨by decide, by decide⟩, ⟨y_1, ey_1.symm, ⟨y_2, ey_2, (Or.inr ⟨c_3, ⟨y_4, ey_4.symm, ⟨y_5, ey_5, (Or.inl ⟨c_6, ⟨rfl, rfl⟩⟩)⟩⟩⟩)⟩⟩⟩), wd_t ht hW⟩, hS.F ht⟩) hS.2.2 dX12_isOwn_221
    · have c_6 : y_5.toInt ≠ 0 := xI_ne rfl rfl c_6
      refine lv_aload_n hx hb dX12_isOwn_22 rfl (lv_at hl 0 rfl) ?_
      obtain ⟨y_7, ey_7⟩ : ∃ q, G.2.1 66 9 = q := ⟨_, rfl⟩
      refine S_getL (v := y_7) (C := RX12) (T := TX12) (N := 89) hx hb hg iX12 hown hK hW kd_66 rfl 9 (lt_b rfl) (hg (Cond.fieldLink RX12 198 "SlabWalkModel" "word" "J") m1323) (fun _ h9 => h9) rfl ey_7 dX12_isOwn_23 ?_
      refine lv_ldc2 (v := 131260314510706) hx hb hown (hg (Cond.constantLong RX12 225 131260314510706) m1645) dX12_isOwn_26 ?_
      refine W.lcmp hx hb dX12_isOwn_29 ?_
      refine lv_topi (fun y_8 ey_8 => ?_)
      have ty_8 := lcmp_rng ey_8
      refine lv_if_eq (tgt := 216) hx hb dX12_isOwn_30 rfl (fun c_9 => ?_) (fun c_9 => ?_)
      · have c_9 : y_8.toInt = 0 := xI_eq rfl rfl c_9
        refine ic_1 hx hb dX12_isOwn_216 ?_
        refine lv_goto (tgt := 221) hx hb dX12_isOwn_217 rfl ?_
        exact W.zret (v := 1) hx hb hr (by decide) (fun t ht _ => ⟨⟨1, G, rfl, (Q_isOwn_mk ⟨hB_G, hF, ⟨by decide, by decide⟩, ⟨y_1, ey_1.symm, ⟨y_2, ey_2, (Or.inr ⟨c_3, ⟨y_4, ey_4.symm, ⟨y_5, ey_5, (Or.inr ⟨c_6, ⟨y_7, ey_7.symm, ⟨y_8, ey_8, (Or.inl ⟨c_9, ⟨rfl, rfl⟩⟩)⟩⟩⟩)⟩⟩⟩)⟩⟩⟩), wd_t ht hW⟩, hS.F ht⟩) hS.2.2 dX12_isOwn_221
      · have c_9 : y_8.toInt ≠ 0 := xI_ne rfl rfl c_9
        refine lv_aload_n hx hb dX12_isOwn_33 rfl (lv_at hl 0 rfl) ?_
        obtain ⟨y_10, ey_10⟩ : ∃ q, G.2.1 66 9 = q := ⟨_, rfl⟩
        refine S_getL (v := y_10) (C := RX12) (T := TX12) (N := 89) hx hb hg iX12 hown hK hW kd_66 rfl 9 (lt_b rfl) (hg (Cond.fieldLink RX12 198 "SlabWalkModel" "word" "J") m1323) (fun _ h9 => h9) rfl ey_10 dX12_isOwn_34 ?_
        refine lv_ldc2 (v := 1718579060) hx hb hown (hg (Cond.constantLong RX12 227 1718579060) m1646) dX12_isOwn_37 ?_
        refine W.lcmp hx hb dX12_isOwn_40 ?_
        refine lv_topi (fun y_11 ey_11 => ?_)
        have ty_11 := lcmp_rng ey_11
        refine lv_if_eq (tgt := 216) hx hb dX12_isOwn_41 rfl (fun c_12 => ?_) (fun c_12 => ?_)
        · have c_12 : y_11.toInt = 0 := xI_eq rfl rfl c_12
          refine ic_1 hx hb dX12_isOwn_216 ?_
          refine lv_goto (tgt := 221) hx hb dX12_isOwn_217 rfl ?_
          exact W.zret (v := 1) hx hb hr (by decide) (fun t ht _ => ⟨⟨1, G, rfl, (Q_isOwn_mk ⟨hB_G, hF, ⟨by decide, by decide⟩, ⟨y_1, ey_1.symm, ⟨y_2, ey_2, (Or.inr ⟨c_3, ⟨y_4, ey_4.symm, ⟨y_5, ey_5, (Or.inr ⟨c_6, ⟨y_7, ey_7.symm, ⟨y_8, ey_8, (Or.inr ⟨c_9, ⟨y_10, ey_10.symm, ⟨y_11, ey_11, (Or.inl ⟨c_12, ⟨rfl, rfl⟩⟩)⟩⟩⟩)⟩⟩⟩)⟩⟩⟩)⟩⟩⟩), wd_t ht hW⟩, hS.F ht⟩) hS.2.2 dX12_isOwn_221
        · have c_12 : y_11.toInt ≠ 0 := xI_ne rfl rfl c_12
          refine lv_aload_n hx hb dX12_isOwn_44 rfl (lv_at hl 0 rfl) ?_
          obtain ⟨y_13, ey_13⟩ : ∃ q, G.2.1 66 9 = q := ⟨_, rfl⟩
          refine S_getL (v := y_13) (C := RX12) (T := TX12) (N := 89) hx hb hg iX12 hown hK hW kd_66 rfl 9 (lt_b rfl) (hg (Cond.fieldLink RX12 198 "SlabWalkModel" "word" "J") m1323) (fun _ h9 => h9) rfl ey_13 dX12_isOwn_45 ?_
          refine lv_ldc2 (v := 1937007984) hx hb hown (hg (Cond.constantLong RX12 229 1937007984) m1647) dX12_isOwn_48 ?_
          refine W.lcmp hx hb dX12_isOwn_51 ?_
          refine lv_topi (fun y_14 ey_14 => ?_)
          have ty_14 := lcmp_rng ey_14
          refine lv_if_eq (tgt := 216) hx hb dX12_isOwn_52 rfl (fun c_15 => ?_) (fun c_15 => ?_)
          · have c_15 : y_14.toInt = 0 := xI_eq rfl rfl c_15
            refine ic_1 hx hb dX12_isOwn_216 ?_
            refine lv_goto (tgt := 221) hx hb dX12_isOwn_217 rfl ?_
            exact W.zret (v := 1) hx hb hr (by decide) (fun t ht _ => ⟨⟨1, G, rfl, (Q_isOwn_mk ⟨hB_G, hF, ⟨by decide, by decide⟩, ⟨y_1, ey_1.symm, ⟨y_2, ey_2, (Or.inr ⟨c_3, ⟨y_4, ey_4.symm, ⟨y_5, ey_5, (Or.inr ⟨c_6, ⟨y_7, ey_7.symm, ⟨y_8, ey_8, (Or.inr ⟨c_9, ⟨y_10, ey_10.symm, ⟨y_11, ey_11, (Or.inr ⟨c_12, ⟨y_13, ey_13.symm, ⟨y_14, ey_14, (Or.inl ⟨c_15, ⟨rfl, rfl⟩⟩)⟩⟩⟩)⟩⟩⟩)⟩⟩⟩)⟩⟩⟩)⟩⟩⟩), wd_t ht hW⟩, hS.F ht⟩) hS.2.2 dX12_isOwn_221
          · have c_15 : y_14.toInt ≠ 0 := xI_ne rfl rfl c_15
            refine lv_aload_n hx hb dX12_isOwn_55 rfl (lv_at hl 0 rfl) ?_
            obtain ⟨y_16, ey_16⟩ : ∃ q, G.2.1 66 9 = q := ⟨_, rfl⟩
            refine S_getL (v := y_16) (C := RX12) (T := TX12) (N := 89) hx hb hg iX12 hown hK hW kd_66 rfl 9 (lt_b rfl) (hg (Cond.fieldLink RX12 198 "SlabWalkModel" "word" "J") m1323) (fun _ h9 => h9) rfl ey_16 dX12_isOwn_56 ?_
            refine lv_ldc2 (v := 29807) hx hb hown (hg (Cond.constantLong RX12 231 29807) m1648) dX12_isOwn_59 ?_
            refine W.lcmp hx hb dX12_isOwn_62 ?_
            refine lv_topi (fun y_17 ey_17 => ?_)
            have ty_17 := lcmp_rng ey_17
            refine lv_if_eq (tgt := 216) hx hb dX12_isOwn_63 rfl (fun c_18 => ?_) (fun c_18 => ?_)
            · have c_18 : y_17.toInt = 0 := xI_eq rfl rfl c_18
              refine ic_1 hx hb dX12_isOwn_216 ?_
              refine lv_goto (tgt := 221) hx hb dX12_isOwn_217 rfl ?_
              exact W.zret (v := 1) hx hb hr (by decide) (fun t ht _ => ⟨⟨1, G, rfl, (Q_isOwn_mk ⟨hB_G, hF, ⟨by decide, by decide⟩, ⟨y_1, ey_1.symm, ⟨y_2, ey_2, (Or.inr ⟨c_3, ⟨y_4, ey_4.symm, ⟨y_5, ey_5, (Or.inr ⟨c_6, ⟨y_7, ey_7.symm, ⟨y_8, ey_8, (Or.inr ⟨c_9, ⟨y_10, ey_10.symm, ⟨y_11, ey_11, (Or.inr ⟨c_12, ⟨y_13, ey_13.symm, ⟨y_14, ey_14, (Or.inr ⟨c_15, ⟨y_16, ey_16.symm, ⟨y_17, ey_17, (Or.inl ⟨c_18, ⟨rfl, rfl⟩⟩)⟩⟩⟩)⟩⟩⟩)⟩⟩⟩)⟩⟩⟩)⟩⟩⟩)⟩⟩⟩), wd_t ht hW⟩, hS.F ht⟩) hS.2.2 dX12_isOwn_221
            · have c_18 : y_17.toInt ≠ 0 := xI_ne rfl rfl c_18
              refine lv_aload_n hx hb dX12_isOwn_66 rfl (lv_at hl 0 rfl) ?_
              obtain ⟨y_19, ey_19⟩ : ∃ q, G.2.1 66 9 = q := ⟨_, rfl⟩
              refine S_getL (v := y_19) (C := RX12) (T := TX12) (N := 89) hx hb hg iX12 hown hK hW kd_66 rfl 9 (lt_b rfl) (hg (Cond.fieldLink RX12 198 "SlabWalkModel" "word" "J") m1323) (fun _ h9 => h9) rfl ey_19 dX12_isOwn_67 ?_
              refine lv_ldc2 (v := 1818583408) hx hb hown (hg (Cond.constantLong RX12 233 1818583408) m1649) dX12_isOwn_70 ?_
              refine W.lcmp hx hb dX12_isOwn_73 ?_
              refine lv_topi (fun y_20 ey_20 => ?_)
              have ty_20 := lcmp_rng ey_20
              refine lv_if_eq (tgt := 216) hx hb dX12_isOwn_74 rfl (fun c_21 => ?_) (fun c_21 => ?_)
              · have c_21 : y_20.toInt = 0 := xI_eq rfl rfl c_21
                refine ic_1 hx hb dX12_isOwn_216 ?_
                refine lv_goto (tgt := 221) hx hb dX12_isOwn_217 rfl ?_
                exact W.zret (v := 1) hx hb hr (by decide) (fun t ht _ => ⟨⟨1, G, rfl, (Q_isOwn_mk ⟨hB_G, hF, ⟨by decide, by decide⟩, ⟨y_1, ey_1.symm, ⟨y_2, ey_2, (Or.inr ⟨c_3, ⟨y_4, ey_4.symm, ⟨y_5, ey_5, (Or.inr ⟨c_6, ⟨y_7, ey_7.symm, ⟨y_8, ey_8, (Or.inr ⟨c_9, ⟨y_10, ey_10.symm, ⟨y_11, ey_11, (Or.inr ⟨c_12, ⟨y_13, ey_13.symm, ⟨y_14, ey_14, (Or.inr ⟨c_15, ⟨y_16, ey_16.symm, ⟨y_17, ey_17, (Or.inr ⟨c_18, ⟨y_19, ey_19.symm, ⟨y_20, ey_20, (Or.inl ⟨c_21, ⟨rfl, rfl⟩⟩)⟩⟩⟩)⟩⟩⟩)⟩⟩⟩)⟩⟩⟩)⟩⟩⟩)⟩⟩⟩)⟩⟩⟩), wd_t ht hW⟩, hS.F ht⟩) hS.2.2 dX12_isOwn_221
              · have c_21 : y_20.toInt ≠ 0 := xI_ne rfl rfl c_21
                refine lv_aload_n hx hb dX12_isOwn_77 rfl (lv_at hl 0 rfl) ?_
                obtain ⟨y_22, ey_22⟩ : ∃ q, G.2.1 66 9 = q := ⟨_, rfl⟩
                refine S_getL (v := y_22) (C := RX12) (T := TX12) (N := 89) hx hb hg iX12 hown hK hW kd_66 rfl 9 (lt_b rfl) (hg (Cond.fieldLink RX12 198 "SlabWalkModel" "word" "J") m1323) (fun _ h9 => h9) rfl ey_22 dX12_isOwn_78 ?_
                refine lv_ldc2 (v := 1920298085) hx hb hown (hg (Cond.constantLong RX12 235 1920298085) m1650) dX12_isOwn_81 ?_
                refine W.lcmp hx hb dX12_isOwn_84 ?_
                refine lv_topi (fun y_23 ey_23 => ?_)
                have ty_23 := lcmp_rng ey_23
                refine lv_if_eq (tgt := 216) hx hb dX12_isOwn_85 rfl (fun c_24 => ?_) (fun c_24 => ?_)
                · have c_24 : y_23.toInt = 0 := xI_eq rfl rfl c_24
                  refine ic_1 hx hb dX12_isOwn_216 ?_
                  refine lv_goto (tgt := 221) hx hb dX12_isOwn_217 rfl ?_
                  exact W.zret (v := 1) hx hb hr (by decide) (fun t ht _ => ⟨⟨1, G, rfl, (Q_isOwn_mk ⟨hB_G, hF, ⟨by decide, by decide⟩, ⟨y_1, ey_1.symm, ⟨y_2, ey_2, (Or.inr ⟨c_3, ⟨y_4, ey_4.symm, ⟨y_5, ey_5, (Or.inr ⟨c_6, ⟨y_7, ey_7.symm, ⟨y_8, ey_8, (Or.inr ⟨c_9, ⟨y_10, ey_10.symm, ⟨y_11, ey_11, (Or.inr ⟨c_12, ⟨y_13, ey_13.symm, ⟨y_14, ey_14, (Or.inr ⟨c_15, ⟨y_16, ey_16.symm, ⟨y_17, ey_17, (Or.inr ⟨c_18, ⟨y_19, ey_19.symm, ⟨y_20, ey_20, (Or.inr ⟨c_21, ⟨y_22, ey_22.symm, ⟨y_23, ey_23, (Or.inl ⟨c_24, ⟨rfl, rfl⟩⟩)⟩⟩⟩)⟩⟩⟩)⟩⟩⟩)⟩⟩⟩)⟩⟩⟩)⟩⟩⟩)⟩⟩⟩)⟩⟩⟩), wd_t ht hW⟩, hS.F ht⟩) hS.2.2 dX12_isOwn_221
                · have c_24 : y_23.toInt ≠ 0 := xI_ne rfl rfl c_24
                  refine lv_aload_n hx hb dX12_isOwn_88 rfl (lv_at hl 0 rfl) ?_
                  obtain ⟨y_25, ey_25⟩ : ∃ q, G.2.1 66 9 = q := ⟨_, rfl⟩
                  refine S_getL (v := y_25) (C := RX12) (T := TX12) (N := 89) hx hb hg iX12 hown hK hW kd_66 rfl 9 (lt_b rfl) (hg (Cond.fieldLink RX12 198 "SlabWalkModel" "word" "J") m1323) (fun _ h9 => h9) rfl ey_25 dX12_isOwn_89 ?_
                  refine lv_ldc2 (v := 1936484720) hx hb hown (hg (Cond.constantLong RX12 237 1936484720) m1651) dX12_isOwn_92 ?_
                  refine W.lcmp hx hb dX12_isOwn_95 ?_
                  refine lv_topi (fun y_26 ey_26 => ?_)
                  have ty_26 := lcmp_rng ey_26
                  refine lv_if_eq (tgt := 216) hx hb dX12_isOwn_96 rfl (fun c_27 => ?_) (fun c_27 => ?_)
                  · have c_27 : y_26.toInt = 0 := xI_eq rfl rfl c_27
                    refine ic_1 hx hb dX12_isOwn_216 ?_
                    refine lv_goto (tgt := 221) hx hb dX12_isOwn_217 rfl ?_
                    exact W.zret (v := 1) hx hb hr (by decide) (fun t ht _ => ⟨⟨1, G, rfl, (Q_isOwn_mk ⟨hB_G, hF, ⟨by decide, by decide⟩, ⟨y_1, ey_1.symm, ⟨y_2, ey_2, (Or.inr ⟨c_3, ⟨y_4, ey_4.symm, ⟨y_5, ey_5, (Or.inr ⟨c_6, ⟨y_7, ey_7.symm, ⟨y_8, ey_8, (Or.inr ⟨c_9, ⟨y_10, ey_10.symm, ⟨y_11, ey_11, (Or.inr ⟨c_12, ⟨y_13, ey_13.symm, ⟨y_14, ey_14, (Or.inr ⟨c_15, ⟨y_16, ey_16.symm, ⟨y_17, ey_17, (Or.inr ⟨c_18, ⟨y_19, ey_19.symm, ⟨y_20, ey_20, (Or.inr ⟨c_21, ⟨y_22, ey_22.symm, ⟨y_23, ey_23, (Or.inr ⟨c_24, ⟨y_25, ey_25.symm, ⟨y_26, ey_26, (Or.inl ⟨c_27, ⟨rfl, rfl⟩⟩)⟩⟩⟩)⟩⟩⟩)⟩⟩⟩)⟩⟩⟩)⟩⟩⟩)⟩⟩⟩)⟩⟩⟩)⟩⟩⟩)⟩⟩⟩), wd_t ht hW⟩, hS.F ht⟩) hS.2.2 dX12_isOwn_221
                  · have c_27 : y_26.toInt ≠ 0 := xI_ne rfl rfl c_27
                    refine lv_aload_n hx hb dX12_isOwn_99 rfl (lv_at hl 0 rfl) ?_
                    obtain ⟨y_28, ey_28⟩ : ∃ q, G.2.1 66 9 = q := ⟨_, rfl⟩
                    refine S_getL (v := y_28) (C := RX12) (T := TX12) (N := 89) hx hb hg iX12 hown hK hW kd_66 rfl 9 (lt_b rfl) (hg (Cond.fieldLink RX12 198 "SlabWalkModel" "word" "J") m1323) (fun _ h9 => h9) rfl ey_28 dX12_isOwn_100 ?_
                    refine lv_ldc2 (v := 1751215716) hx hb hown (hg (Cond.constantLong RX12 239 1751215716) m1652) dX12_isOwn_103 ?_
                    refine W.lcmp hx hb dX12_isOwn_106 ?_
                    refine lv_topi (fun y_29 ey_29 => ?_)
                    have ty_29 := lcmp_rng ey_29
                    refine lv_if_eq (tgt := 216) hx hb dX12_isOwn_107 rfl (fun c_30 => ?_) (fun c_30 => ?_)
                    · have c_30 : y_29.toInt = 0 := xI_eq rfl rfl c_30
                      refine ic_1 hx hb dX12_isOwn_216 ?_
                      refine lv_goto (tgt := 221) hx hb dX12_isOwn_217 rfl ?_
                      exact W.zret (v := 1) hx hb hr (by decide) (fun t ht _ => ⟨⟨1, G, rfl, (Q_isOwn_mk ⟨hB_G, hF, ⟨by decide, by decide⟩, ⟨y_1, ey_1.symm, ⟨y_2, ey_2, (Or.inr ⟨c_3, ⟨y_4, ey_4.symm, ⟨y_5, ey_5, (Or.inr ⟨c_6, ⟨y_7, ey_7.symm, ⟨y_8, ey_8, (Or.inr ⟨c_9, ⟨y_10, ey_10.symm, ⟨y_11, ey_11, (Or.inr ⟨c_12, ⟨y_13, ey_13.symm, ⟨y_14, ey_14, (Or.inr ⟨c_15, ⟨y_16, ey_16.symm, ⟨y_17, ey_17, (Or.inr ⟨c_18, ⟨y_19, ey_19.symm, ⟨y_20, ey_20, (Or.inr ⟨c_21, ⟨y_22, ey_22.symm, ⟨y_23, ey_23, (Or.inr ⟨c_24, ⟨y_25, ey_25.symm, ⟨y_26, ey_26, (Or.inr ⟨c_27, ⟨y_28, ey_28.symm, ⟨y_29, ey_29, (Or.inl ⟨c_30, ⟨rfl, rfl⟩⟩)⟩⟩⟩)⟩⟩⟩)⟩⟩⟩)⟩⟩⟩)⟩⟩⟩)⟩⟩⟩)⟩⟩⟩)⟩⟩⟩)⟩⟩⟩)⟩⟩⟩), wd_t ht hW⟩, hS.F ht⟩) hS.2.2 dX12_isOwn_221
                    · have c_30 : y_29.toInt ≠ 0 := xI_ne rfl rfl c_30
                      refine lv_aload_n hx hb dX12_isOwn_110 rfl (lv_at hl 0 rfl) ?_
                      obtain ⟨y_31, ey_31⟩ : ∃ q, G.2.1 66 9 = q := ⟨_, rfl⟩
                      refine S_getL (v := y_31) (C := RX12) (T := TX12) (N := 89) hx hb hg iX12 hown hK hW kd_66 rfl 9 (lt_b rfl) (hg (Cond.fieldLink RX12 198 "SlabWalkModel" "word" "J") m1323) (fun _ h9 => h9) rfl ey_31 dX12_isOwn_111 ?_
                      refine lv_ldc2 (v := 495739560811) hx hb hown (hg (Cond.constantLong RX12 241 495739560811) m1653) dX12_isOwn_114 ?_
                      refine W.lcmp hx hb dX12_isOwn_117 ?_
                      refine lv_topi (fun y_32 ey_32 => ?_)
                      have ty_32 := lcmp_rng ey_32
                      refine lv_if_eq (tgt := 216) hx hb dX12_isOwn_118 rfl (fun c_33 => ?_) (fun c_33 => ?_)
                      · have c_33 : y_32.toInt = 0 := xI_eq rfl rfl c_33
                        refine ic_1 hx hb dX12_isOwn_216 ?_
                        refine lv_goto (tgt := 221) hx hb dX12_isOwn_217 rfl ?_
                        exact W.zret (v := 1) hx hb hr (by decide) (fun t ht _ => ⟨⟨1, G, rfl, (Q_isOwn_mk ⟨hB_G, hF, ⟨by decide, by decide⟩, ⟨y_1, ey_1.symm, ⟨y_2, ey_2, (Or.inr ⟨c_3, ⟨y_4, ey_4.symm, ⟨y_5, ey_5, (Or.inr ⟨c_6, ⟨y_7, ey_7.symm, ⟨y_8, ey_8, (Or.inr ⟨c_9, ⟨y_10, ey_10.symm, ⟨y_11, ey_11, (Or.inr ⟨c_12, ⟨y_13, ey_13.symm, ⟨y_14, ey_14, (Or.inr ⟨c_15, ⟨y_16, ey_16.symm, ⟨y_17, ey_17, (Or.inr ⟨c_18, ⟨y_19, ey_19.symm, ⟨y_20, ey_20, (Or.inr ⟨c_21, ⟨y_22, ey_22.symm, ⟨y_23, ey_23, (Or.inr ⟨c_24, ⟨y_25, ey_25.symm, ⟨y_26, ey_26, (Or.inr ⟨c_27, ⟨y_28, ey_28.symm, ⟨y_29, ey_29, (Or.inr ⟨c_30, ⟨y_31, ey_31.symm, ⟨y_32, ey_32, (Or.inl ⟨c_33, ⟨rfl, rfl⟩⟩)⟩⟩⟩)⟩⟩⟩)⟩⟩⟩)⟩⟩⟩)⟩⟩⟩)⟩⟩⟩)⟩⟩⟩)⟩⟩⟩)⟩⟩⟩)⟩⟩⟩)⟩⟩⟩), wd_t ht hW⟩, hS.F ht⟩) hS.2.2 dX12_isOwn_221
                      · have c_33 : y_32.toInt ≠ 0 := xI_ne rfl rfl c_33
                        refine lv_aload_n hx hb dX12_isOwn_121 rfl (lv_at hl 0 rfl) ?_
                        obtain ⟨y_34, ey_34⟩ : ∃ q, G.2.1 66 9 = q := ⟨_, rfl⟩
                        refine S_getL (v := y_34) (C := RX12) (T := TX12) (N := 89) hx hb hg iX12 hown hK hW kd_66 rfl 9 (lt_b rfl) (hg (Cond.fieldLink RX12 198 "SlabWalkModel" "word" "J") m1323) (fun _ h9 => h9) rfl ey_34 dX12_isOwn_122 ?_
                        refine lv_ldc2 (v := 1685217655) hx hb hown (hg (Cond.constantLong RX12 243 1685217655) m1654) dX12_isOwn_125 ?_
                        refine W.lcmp hx hb dX12_isOwn_128 ?_
                        refine lv_topi (fun y_35 ey_35 => ?_)
                        have ty_35 := lcmp_rng ey_35
                        refine lv_if_eq (tgt := 216) hx hb dX12_isOwn_129 rfl (fun c_36 => ?_) (fun c_36 => ?_)
                        · have c_36 : y_35.toInt = 0 := xI_eq rfl rfl c_36
                          refine ic_1 hx hb dX12_isOwn_216 ?_
                          refine lv_goto (tgt := 221) hx hb dX12_isOwn_217 rfl ?_
                          exact W.zret (v := 1) hx hb hr (by decide) (fun t ht _ => ⟨⟨1, G, rfl, (Q_isOwn_mk ⟨hB_G, hF, ⟨by decide, by decide⟩, ⟨y_1, ey_1.symm, ⟨y_2, ey_2, (Or.inr ⟨c_3, ⟨y_4, ey_4.symm, ⟨y_5, ey_5, (Or.inr ⟨c_6, ⟨y_7, ey_7.symm, ⟨y_8, ey_8, (Or.inr ⟨c_9, ⟨y_10, ey_10.symm, ⟨y_11, ey_11, (Or.inr ⟨c_12, ⟨y_13, ey_13.symm, ⟨y_14, ey_14, (Or.inr ⟨c_15, ⟨y_16, ey_16.symm, ⟨y_17, ey_17, (Or.inr ⟨c_18, ⟨y_19, ey_19.symm, ⟨y_20, ey_20, (Or.inr ⟨c_21, ⟨y_22, ey_22.symm, ⟨y_23, ey_23, (Or.inr ⟨c_24, ⟨y_25, ey_25.symm, ⟨y_26, ey_26, (Or.inr ⟨c_27, ⟨y_28, ey_28.symm, ⟨y_29, ey_29, (Or.inr ⟨c_30, ⟨y_31, ey_31.symm, ⟨y_32, ey_32, (Or.inr ⟨c_33, ⟨y_34, ey_34.symm, ⟨y_35, ey_35, (Or.inl ⟨c_36, ⟨rfl, rfl⟩⟩)⟩⟩⟩)⟩⟩⟩)⟩⟩⟩)⟩⟩⟩)⟩⟩⟩)⟩⟩⟩)⟩⟩⟩)⟩⟩⟩)⟩⟩⟩)⟩⟩⟩)⟩⟩⟩)⟩⟩⟩), wd_t ht hW⟩, hS.F ht⟩) hS.2.2 dX12_isOwn_221
                        · have c_36 : y_35.toInt ≠ 0 := xI_ne rfl rfl c_36
                          refine lv_aload_n hx hb dX12_isOwn_132 rfl (lv_at hl 0 rfl) ?_
                          refine S_calli (va_runV (As := []) (rest := []) ⟨hx, hb, hml, hown, hts⟩ (n_mark l D k A a z G  ) (cwV 0 hts (gd_V hgd m1655 m1657 m58 m131 m1658) rfl rfl rfl hd_X12_mark ⟨Nat.le_of_ble_eq_true rfl, Nat.le_of_ble_eq_true rfl⟩) (pre_W hW hB_G hK hZ hS kd_66 rfl) rfl rfl hl.1 rfl (lv_room (Nat.le_of_ble_eq_true rfl)) dX12_isOwn_133 ⟨Nat.le_of_ble_eq_true rfl, Nat.le_of_ble_eq_true rfl⟩) hS (fun r_37 G_38 H locs hpo hW hS => ?_)
                          have hX_41 : Q_mark G r_37 G_38 := hpo
                          obtain ⟨hB_G_38, hq_39, f_42, hp_40, -⟩ := hpo
                          have hF := hF.call9 hq_39 rfl rfl
                          refine lv_if_gt (tgt := 216) hx hb dX12_isOwn_136 rfl (fun c_43 => ?_) (fun c_43 => ?_)
                          · have c_43 : 0 < r_37.toInt := xI_lt rfl rfl c_43
                            refine ic_1 hx hb dX12_isOwn_216 ?_
                            refine lv_goto (tgt := 221) hx hb dX12_isOwn_217 rfl ?_
                            exact W.zret (v := 1) hx hb hr (by decide) (fun t ht _ => ⟨⟨1, G_38, rfl, (Q_isOwn_mk ⟨hB_G_38, hF, ⟨by decide, by decide⟩, ⟨y_1, ey_1.symm, ⟨y_2, ey_2, (Or.inr ⟨c_3, ⟨y_4, ey_4.symm, ⟨y_5, ey_5, (Or.inr ⟨c_6, ⟨y_7, ey_7.symm, ⟨y_8, ey_8, (Or.inr ⟨c_9, ⟨y_10, ey_10.symm, ⟨y_11, ey_11, (Or.inr ⟨c_12, ⟨y_13, ey_13.symm, ⟨y_14, ey_14, (Or.inr ⟨c_15, ⟨y_16, ey_16.symm, ⟨y_17, ey_17, (Or.inr ⟨c_18, ⟨y_19, ey_19.symm, ⟨y_20, ey_20, (Or.inr ⟨c_21, ⟨y_22, ey_22.symm, ⟨y_23, ey_23, (Or.inr ⟨c_24, ⟨y_25, ey_25.symm, ⟨y_26, ey_26, (Or.inr ⟨c_27, ⟨y_28, ey_28.symm, ⟨y_29, ey_29, (Or.inr ⟨c_30, ⟨y_31, ey_31.symm, ⟨y_32, ey_32, (Or.inr ⟨c_33, ⟨y_34, ey_34.symm, ⟨y_35, ey_35, (Or.inr ⟨c_36, ⟨r_37, G_38, hX_41, (Or.inl ⟨c_43, ⟨rfl, rfl⟩⟩)⟩⟩)⟩⟩⟩)⟩⟩⟩)⟩⟩⟩)⟩⟩⟩)⟩⟩⟩)⟩⟩⟩)⟩⟩⟩)⟩⟩⟩)⟩⟩⟩)⟩⟩⟩)⟩⟩⟩)⟩⟩⟩), wd_t ht hW⟩, hS.F ht⟩) hS.2.2 dX12_isOwn_221
                          · have c_43 : r_37.toInt ≤ 0 := xI_nlt rfl rfl c_43
                            refine lv_aload_n hx hb dX12_isOwn_139 rfl (lv_at hl 0 rfl) ?_
                            obtain ⟨y_44, ey_44⟩ : ∃ q, G_38.2.1 66 9 = q := ⟨_, rfl⟩
                            refine S_getL (v := y_44) (C := RX12) (T := TX12) (N := 89) hx hb hg iX12 hown hK hW kd_66 rfl 9 (lt_b rfl) (hg (Cond.fieldLink RX12 198 "SlabWalkModel" "word" "J") m1323) (fun _ h9 => h9) rfl ey_44 dX12_isOwn_140 ?_
                            refine lv_ldc2 (v := 1819242087) hx hb hown (hg (Cond.constantLong RX12 249 1819242087) m1663) dX12_isOwn_143 ?_
                            refine W.lcmp hx hb dX12_isOwn_146 ?_
                            refine lv_topi (fun y_45 ey_45 => ?_)
                            have ty_45 := lcmp_rng ey_45
                            refine lv_if_eq (tgt := 216) hx hb dX12_isOwn_147 rfl (fun c_46 => ?_) (fun c_46 => ?_)
                            · have c_46 : y_45.toInt = 0 := xI_eq rfl rfl c_46
                              refine ic_1 hx hb dX12_isOwn_216 ?_
                              refine lv_goto (tgt := 221) hx hb dX12_isOwn_217 rfl ?_
                              exact W.zret (v := 1) hx hb hr (by decide) (fun t ht _ => ⟨⟨1, G_38, rfl, (Q_isOwn_mk ⟨hB_G_38, hF, ⟨by decide, by decide⟩, ⟨y_1, ey_1.symm, ⟨y_2, ey_2, (Or.inr ⟨c_3, ⟨y_4, ey_4.symm, ⟨y_5, ey_5, (Or.inr ⟨c_6, ⟨y_7, ey_7.symm, ⟨y_8, ey_8, (Or.inr ⟨c_9, ⟨y_10, ey_10.symm, ⟨y_11, ey_11, (Or.inr ⟨c_12, ⟨y_13, ey_13.symm, ⟨y_14, ey_14, (Or.inr ⟨c_15, ⟨y_16, ey_16.symm, ⟨y_17, ey_17, (Or.inr ⟨c_18, ⟨y_19, ey_19.symm, ⟨y_20, ey_20, (Or.inr ⟨c_21, ⟨y_22, ey_22.symm, ⟨y_23, ey_23, (Or.inr ⟨c_24, ⟨y_25, ey_25.symm, ⟨y_26, ey_26, (Or.inr ⟨c_27, ⟨y_28, ey_28.symm, ⟨y_29, ey_29, (Or.inr ⟨c_30, ⟨y_31, ey_31.symm, ⟨y_32, ey_32, (Or.inr ⟨c_33, ⟨y_34, ey_34.symm, ⟨y_35, ey_35, (Or.inr ⟨c_36, ⟨r_37, G_38, hX_41, (Or.inr ⟨c_43, ⟨y_44, ey_44.symm.trans ((hq_39.l9 66 9 rfl rfl)), ⟨y_45, ey_45, (Or.inl ⟨c_46, ⟨rfl, rfl⟩⟩)⟩⟩⟩)⟩⟩)⟩⟩⟩)⟩⟩⟩)⟩⟩⟩)⟩⟩⟩)⟩⟩⟩)⟩⟩⟩)⟩⟩⟩)⟩⟩⟩)⟩⟩⟩)⟩⟩⟩)⟩⟩⟩)⟩⟩⟩), wd_t ht hW⟩, hS.F ht⟩) hS.2.2 dX12_isOwn_221
                            · have c_46 : y_45.toInt ≠ 0 := xI_ne rfl rfl c_46
                              refine lv_aload_n hx hb dX12_isOwn_150 rfl (lv_at hl 0 rfl) ?_
                              obtain ⟨y_47, ey_47⟩ : ∃ q, G_38.2.1 66 9 = q := ⟨_, rfl⟩
                              refine S_getL (v := y_47) (C := RX12) (T := TX12) (N := 89) hx hb hg iX12 hown hK hW kd_66 rfl 9 (lt_b rfl) (hg (Cond.fieldLink RX12 198 "SlabWalkModel" "word" "J") m1323) (fun _ h9 => h9) rfl ey_47 dX12_isOwn_151 ?_
                              refine lv_ldc2 (v := 7238760) hx hb hown (hg (Cond.constantLong RX12 251 7238760) m1664) dX12_isOwn_154 ?_
                              refine W.lcmp hx hb dX12_isOwn_157 ?_
                              refine lv_topi (fun y_48 ey_48 => ?_)
                              have ty_48 := lcmp_rng ey_48
                              refine lv_if_eq (tgt := 216) hx hb dX12_isOwn_158 rfl (fun c_49 => ?_) (fun c_49 => ?_)
                              · have c_49 : y_48.toInt = 0 := xI_eq rfl rfl c_49
                                refine ic_1 hx hb dX12_isOwn_216 ?_
                                refine lv_goto (tgt := 221) hx hb dX12_isOwn_217 rfl ?_
                                exact W.zret (v := 1) hx hb hr (by decide) (fun t ht _ => ⟨⟨1, G_38, rfl, (Q_isOwn_mk ⟨hB_G_38, hF, ⟨by decide, by decide⟩, ⟨y_1, ey_1.symm, ⟨y_2, ey_2, (Or.inr ⟨c_3, ⟨y_4, ey_4.symm, ⟨y_5, ey_5, (Or.inr ⟨c_6, ⟨y_7, ey_7.symm, ⟨y_8, ey_8, (Or.inr ⟨c_9, ⟨y_10, ey_10.symm, ⟨y_11, ey_11, (Or.inr ⟨c_12, ⟨y_13, ey_13.symm, ⟨y_14, ey_14, (Or.inr ⟨c_15, ⟨y_16, ey_16.symm, ⟨y_17, ey_17, (Or.inr ⟨c_18, ⟨y_19, ey_19.symm, ⟨y_20, ey_20, (Or.inr ⟨c_21, ⟨y_22, ey_22.symm, ⟨y_23, ey_23, (Or.inr ⟨c_24, ⟨y_25, ey_25.symm, ⟨y_26, ey_26, (Or.inr ⟨c_27, ⟨y_28, ey_28.symm, ⟨y_29, ey_29, (Or.inr ⟨c_30, ⟨y_31, ey_31.symm, ⟨y_32, ey_32, (Or.inr ⟨c_33, ⟨y_34, ey_34.symm, ⟨y_35, ey_35, (Or.inr ⟨c_36, ⟨r_37, G_38, hX_41, (Or.inr ⟨c_43, ⟨y_44, ey_44.symm.trans ((hq_39.l9 66 9 rfl rfl)), ⟨y_45, ey_45, (Or.inr ⟨c_46, ⟨y_47, ey_47.symm.trans ((hq_39.l9 66 9 rfl rfl)), ⟨y_48, ey_48, (Or.inl ⟨c_49, ⟨rfl, rfl⟩⟩)⟩⟩⟩)⟩⟩⟩)⟩⟩)⟩⟩⟩)⟩⟩⟩)⟩⟩⟩)⟩⟩⟩)⟩⟩⟩)⟩⟩⟩)⟩⟩⟩)⟩⟩⟩)⟩⟩⟩)⟩⟩⟩)⟩⟩⟩)⟩⟩⟩), wd_t ht hW⟩, hS.F ht⟩) hS.2.2 dX12_isOwn_221
                              · have c_49 : y_48.toInt ≠ 0 := xI_ne rfl rfl c_49
                                refine lv_aload_n hx hb dX12_isOwn_161 rfl (lv_at hl 0 rfl) ?_
                                obtain ⟨y_50, ey_50⟩ : ∃ q, G_38.2.1 66 9 = q := ⟨_, rfl⟩
                                refine S_getL (v := y_50) (C := RX12) (T := TX12) (N := 89) hx hb hg iX12 hown hK hW kd_66 rfl 9 (lt_b rfl) (hg (Cond.fieldLink RX12 198 "SlabWalkModel" "word" "J") m1323) (fun _ h9 => h9) rfl ey_50 dX12_isOwn_162 ?_
                                refine lv_ldc2 (v := 1768842088) hx hb hown (hg (Cond.constantLong RX12 253 1768842088) m1665) dX12_isOwn_165 ?_
                                refine W.lcmp hx hb dX12_isOwn_168 ?_
                                refine lv_topi (fun y_51 ey_51 => ?_)
                                have ty_51 := lcmp_rng ey_51
                                refine lv_if_eq (tgt := 216) hx hb dX12_isOwn_169 rfl (fun c_52 => ?_) (fun c_52 => ?_)
                                · have c_52 : y_51.toInt = 0 := xI_eq rfl rfl c_52
                                  refine ic_1 hx hb dX12_isOwn_216 ?_
                                  refine lv_goto (tgt := 221) hx hb dX12_isOwn_217 rfl ?_
                                  exact W.zret (v := 1) hx hb hr (by decide) (fun t ht _ => ⟨⟨1, G_38, rfl, (Q_isOwn_mk ⟨hB_G_38, hF, ⟨by decide, by decide⟩, ⟨y_1, ey_1.symm, ⟨y_2, ey_2, (Or.inr ⟨c_3, ⟨y_4, ey_4.symm, ⟨y_5, ey_5, (Or.inr ⟨c_6, ⟨y_7, ey_7.symm, ⟨y_8, ey_8, (Or.inr ⟨c_9, ⟨y_10, ey_10.symm, ⟨y_11, ey_11, (Or.inr ⟨c_12, ⟨y_13, ey_13.symm, ⟨y_14, ey_14, (Or.inr ⟨c_15, ⟨y_16, ey_16.symm, ⟨y_17, ey_17, (Or.inr ⟨c_18, ⟨y_19, ey_19.symm, ⟨y_20, ey_20, (Or.inr ⟨c_21, ⟨y_22, ey_22.symm, ⟨y_23, ey_23, (Or.inr ⟨c_24, ⟨y_25, ey_25.symm, ⟨y_26, ey_26, (Or.inr ⟨c_27, ⟨y_28, ey_28.symm, ⟨y_29, ey_29, (Or.inr ⟨c_30, ⟨y_31, ey_31.symm, ⟨y_32, ey_32, (Or.inr ⟨c_33, ⟨y_34, ey_34.symm, ⟨y_35, ey_35, (Or.inr ⟨c_36, ⟨r_37, G_38, hX_41, (Or.inr ⟨c_43, ⟨y_44, ey_44.symm.trans ((hq_39.l9 66 9 rfl rfl)), ⟨y_45, ey_45, (Or.inr ⟨c_46, ⟨y_47, ey_47.symm.trans ((hq_39.l9 66 9 rfl rfl)), ⟨y_48, ey_48, (Or.inr ⟨c_49, ⟨y_50, ey_50.symm.trans ((hq_39.l9 66 9 rfl rfl)), ⟨y_51, ey_51, (Or.inl ⟨c_52, ⟨rfl, rfl⟩⟩)⟩⟩⟩)⟩⟩⟩)⟩⟩⟩)⟩⟩)⟩⟩⟩)⟩⟩⟩)⟩⟩⟩)⟩⟩⟩)⟩⟩⟩)⟩⟩⟩)⟩⟩⟩)⟩⟩⟩)⟩⟩⟩)⟩⟩⟩)⟩⟩⟩)⟩⟩⟩), wd_t ht hW⟩, hS.F ht⟩) hS.2.2 dX12_isOwn_221
                                · have c_52 : y_51.toInt ≠ 0 := xI_ne rfl rfl c_52
                                  refine lv_aload_n hx hb dX12_isOwn_172 rfl (lv_at hl 0 rfl) ?_
                                  obtain ⟨y_53, ey_53⟩ : ∃ q, G_38.2.1 66 9 = q := ⟨_, rfl⟩
                                  refine S_getL (v := y_53) (C := RX12) (T := TX12) (N := 89) hx hb hg iX12 hown hK hW kd_66 rfl 9 (lt_b rfl) (hg (Cond.fieldLink RX12 198 "SlabWalkModel" "word" "J") m1323) (fun _ h9 => h9) rfl ey_53 dX12_isOwn_173 ?_
                                  refine lv_ldc2 (v := 6578553) hx hb hown (hg (Cond.constantLong RX12 255 6578553) m1666) dX12_isOwn_176 ?_
                                  refine W.lcmp hx hb dX12_isOwn_179 ?_
                                  refine lv_topi (fun y_54 ey_54 => ?_)
                                  have ty_54 := lcmp_rng ey_54
                                  refine lv_if_eq (tgt := 216) hx hb dX12_isOwn_180 rfl (fun c_55 => ?_) (fun c_55 => ?_)
                                  · have c_55 : y_54.toInt = 0 := xI_eq rfl rfl c_55
                                    refine ic_1 hx hb dX12_isOwn_216 ?_
                                    refine lv_goto (tgt := 221) hx hb dX12_isOwn_217 rfl ?_
                                    exact W.zret (v := 1) hx hb hr (by decide) (fun t ht _ => ⟨⟨1, G_38, rfl, (Q_isOwn_mk ⟨hB_G_38, hF, ⟨by decide, by decide⟩, ⟨y_1, ey_1.symm, ⟨y_2, ey_2, (Or.inr ⟨c_3, ⟨y_4, ey_4.symm, ⟨y_5, ey_5, (Or.inr ⟨c_6, ⟨y_7, ey_7.symm, ⟨y_8, ey_8, (Or.inr ⟨c_9, ⟨y_10, ey_10.symm, ⟨y_11, ey_11, (Or.inr ⟨c_12, ⟨y_13, ey_13.symm, ⟨y_14, ey_14, (Or.inr ⟨c_15, ⟨y_16, ey_16.symm, ⟨y_17, ey_17, (Or.inr ⟨c_18, ⟨y_19, ey_19.symm, ⟨y_20, ey_20, (Or.inr ⟨c_21, ⟨y_22, ey_22.symm, ⟨y_23, ey_23, (Or.inr ⟨c_24, ⟨y_25, ey_25.symm, ⟨y_26, ey_26, (Or.inr ⟨c_27, ⟨y_28, ey_28.symm, ⟨y_29, ey_29, (Or.inr ⟨c_30, ⟨y_31, ey_31.symm, ⟨y_32, ey_32, (Or.inr ⟨c_33, ⟨y_34, ey_34.symm, ⟨y_35, ey_35, (Or.inr ⟨c_36, ⟨r_37, G_38, hX_41, (Or.inr ⟨c_43, ⟨y_44, ey_44.symm.trans ((hq_39.l9 66 9 rfl rfl)), ⟨y_45, ey_45, (Or.inr ⟨c_46, ⟨y_47, ey_47.symm.trans ((hq_39.l9 66 9 rfl rfl)), ⟨y_48, ey_48, (Or.inr ⟨c_49, ⟨y_50, ey_50.symm.trans ((hq_39.l9 66 9 rfl rfl)), ⟨y_51, ey_51, (Or.inr ⟨c_52, ⟨y_53, ey_53.symm.trans ((hq_39.l9 66 9 rfl rfl)), ⟨y_54, ey_54, (Or.inl ⟨c_55, ⟨rfl, rfl⟩⟩)⟩⟩⟩)⟩⟩⟩)⟩⟩⟩)⟩⟩⟩)⟩⟩)⟩⟩⟩)⟩⟩⟩)⟩⟩⟩)⟩⟩⟩)⟩⟩⟩)⟩⟩⟩)⟩⟩⟩)⟩⟩⟩)⟩⟩⟩)⟩⟩⟩)⟩⟩⟩)⟩⟩⟩), wd_t ht hW⟩, hS.F ht⟩) hS.2.2 dX12_isOwn_221
                                  · have c_55 : y_54.toInt ≠ 0 := xI_ne rfl rfl c_55
                                    refine lv_aload_n hx hb dX12_isOwn_183 rfl (lv_at hl 0 rfl) ?_
                                    obtain ⟨y_56, ey_56⟩ : ∃ q, G_38.2.1 66 9 = q := ⟨_, rfl⟩
                                    refine S_getL (v := y_56) (C := RX12) (T := TX12) (N := 89) hx hb hg iX12 hown hK hW kd_66 rfl 9 (lt_b rfl) (hg (Cond.fieldLink RX12 198 "SlabWalkModel" "word" "J") m1323) (fun _ h9 => h9) rfl ey_56 dX12_isOwn_184 ?_
                                    refine lv_ldc2 (v := 6385252) hx hb hown (hg (Cond.constantLong RX12 257 6385252) m1667) dX12_isOwn_187 ?_
                                    refine W.lcmp hx hb dX12_isOwn_190 ?_
                                    refine lv_topi (fun y_57 ey_57 => ?_)
                                    have ty_57 := lcmp_rng ey_57
                                    refine lv_if_eq (tgt := 216) hx hb dX12_isOwn_191 rfl (fun c_58 => ?_) (fun c_58 => ?_)
                                    · have c_58 : y_57.toInt = 0 := xI_eq rfl rfl c_58
                                      refine ic_1 hx hb dX12_isOwn_216 ?_
                                      refine lv_goto (tgt := 221) hx hb dX12_isOwn_217 rfl ?_
                                      exact W.zret (v := 1) hx hb hr (by decide) (fun t ht _ => ⟨⟨1, G_38, rfl, (Q_isOwn_mk ⟨hB_G_38, hF, ⟨by decide, by decide⟩, ⟨y_1, ey_1.symm, ⟨y_2, ey_2, (Or.inr ⟨c_3, ⟨y_4, ey_4.symm, ⟨y_5, ey_5, (Or.inr ⟨c_6, ⟨y_7, ey_7.symm, ⟨y_8, ey_8, (Or.inr ⟨c_9, ⟨y_10, ey_10.symm, ⟨y_11, ey_11, (Or.inr ⟨c_12, ⟨y_13, ey_13.symm, ⟨y_14, ey_14, (Or.inr ⟨c_15, ⟨y_16, ey_16.symm, ⟨y_17, ey_17, (Or.inr ⟨c_18, ⟨y_19, ey_19.symm, ⟨y_20, ey_20, (Or.inr ⟨c_21, ⟨y_22, ey_22.symm, ⟨y_23, ey_23, (Or.inr ⟨c_24, ⟨y_25, ey_25.symm, ⟨y_26, ey_26, (Or.inr ⟨c_27, ⟨y_28, ey_28.symm, ⟨y_29, ey_29, (Or.inr ⟨c_30, ⟨y_31, ey_31.symm, ⟨y_32, ey_32, (Or.inr ⟨c_33, ⟨y_34, ey_34.symm, ⟨y_35, ey_35, (Or.inr ⟨c_36, ⟨r_37, G_38, hX_41, (Or.inr ⟨c_43, ⟨y_44, ey_44.symm.trans ((hq_39.l9 66 9 rfl rfl)), ⟨y_45, ey_45, (Or.inr ⟨c_46, ⟨y_47, ey_47.symm.trans ((hq_39.l9 66 9 rfl rfl)), ⟨y_48, ey_48, (Or.inr ⟨c_49, ⟨y_50, ey_50.symm.trans ((hq_39.l9 66 9 rfl rfl)), ⟨y_51, ey_51, (Or.inr ⟨c_52, ⟨y_53, ey_53.symm.trans ((hq_39.l9 66 9 rfl rfl)), ⟨y_54, ey_54, (Or.inr ⟨c_55, ⟨y_56, ey_56.symm.trans ((hq_39.l9 66 9 rfl rfl)), ⟨y_57, ey_57, (Or.inl ⟨c_58, ⟨rfl, rfl⟩⟩)⟩⟩⟩)⟩⟩⟩)⟩⟩⟩)⟩⟩⟩)⟩⟩⟩)⟩⟩)⟩⟩⟩)⟩⟩⟩)⟩⟩⟩)⟩⟩⟩)⟩⟩⟩)⟩⟩⟩)⟩⟩⟩)⟩⟩⟩)⟩⟩⟩)⟩⟩⟩)⟩⟩⟩)⟩⟩⟩), wd_t ht hW⟩, hS.F ht⟩) hS.2.2 dX12_isOwn_221
                                    · have c_58 : y_57.toInt ≠ 0 := xI_ne rfl rfl c_58
                                      refine lv_aload_n hx hb dX12_isOwn_194 rfl (lv_at hl 0 rfl) ?_
                                      obtain ⟨y_59, ey_59⟩ : ∃ q, G_38.2.1 66 9 = q := ⟨_, rfl⟩
                                      refine S_getL (v := y_59) (C := RX12) (T := TX12) (N := 89) hx hb hg iX12 hown hK hW kd_66 rfl 9 (lt_b rfl) (hg (Cond.fieldLink RX12 198 "SlabWalkModel" "word" "J") m1323) (fun _ h9 => h9) rfl ey_59 dX12_isOwn_195 ?_
                                      refine lv_ldc2 (v := 28530) hx hb hown (hg (Cond.constantLong RX12 259 28530) m1668) dX12_isOwn_198 ?_
                                      refine W.lcmp hx hb dX12_isOwn_201 ?_
                                      refine lv_topi (fun y_60 ey_60 => ?_)
                                      have ty_60 := lcmp_rng ey_60
                                      refine lv_if_eq (tgt := 216) hx hb dX12_isOwn_202 rfl (fun c_61 => ?_) (fun c_61 => ?_)
                                      · have c_61 : y_60.toInt = 0 := xI_eq rfl rfl c_61
                                        refine ic_1 hx hb dX12_isOwn_216 ?_
                                        refine lv_goto (tgt := 221) hx hb dX12_isOwn_217 rfl ?_
                                        exact W.zret (v := 1) hx hb hr (by decide) (fun t ht _ => ⟨⟨1, G_38, rfl, (Q_isOwn_mk ⟨hB_G_38, hF, ⟨by decide, by decide⟩, ⟨y_1, ey_1.symm, ⟨y_2, ey_2, (Or.inr ⟨c_3, ⟨y_4, ey_4.symm, ⟨y_5, ey_5, (Or.inr ⟨c_6, ⟨y_7, ey_7.symm, ⟨y_8, ey_8, (Or.inr ⟨c_9, ⟨y_10, ey_10.symm, ⟨y_11, ey_11, (Or.inr ⟨c_12, ⟨y_13, ey_13.symm, ⟨y_14, ey_14, (Or.inr ⟨c_15, ⟨y_16, ey_16.symm, ⟨y_17, ey_17, (Or.inr ⟨c_18, ⟨y_19, ey_19.symm, ⟨y_20, ey_20, (Or.inr ⟨c_21, ⟨y_22, ey_22.symm, ⟨y_23, ey_23, (Or.inr ⟨c_24, ⟨y_25, ey_25.symm, ⟨y_26, ey_26, (Or.inr ⟨c_27, ⟨y_28, ey_28.symm, ⟨y_29, ey_29, (Or.inr ⟨c_30, ⟨y_31, ey_31.symm, ⟨y_32, ey_32, (Or.inr ⟨c_33, ⟨y_34, ey_34.symm, ⟨y_35, ey_35, (Or.inr ⟨c_36, ⟨r_37, G_38, hX_41, (Or.inr ⟨c_43, ⟨y_44, ey_44.symm.trans ((hq_39.l9 66 9 rfl rfl)), ⟨y_45, ey_45, (Or.inr ⟨c_46, ⟨y_47, ey_47.symm.trans ((hq_39.l9 66 9 rfl rfl)), ⟨y_48, ey_48, (Or.inr ⟨c_49, ⟨y_50, ey_50.symm.trans ((hq_39.l9 66 9 rfl rfl)), ⟨y_51, ey_51, (Or.inr ⟨c_52, ⟨y_53, ey_53.symm.trans ((hq_39.l9 66 9 rfl rfl)), ⟨y_54, ey_54, (Or.inr ⟨c_55, ⟨y_56, ey_56.symm.trans ((hq_39.l9 66 9 rfl rfl)), ⟨y_57, ey_57, (Or.inr ⟨c_58, ⟨y_59, ey_59.symm.trans ((hq_39.l9 66 9 rfl rfl)), ⟨y_60, ey_60, (Or.inl ⟨c_61, ⟨rfl, rfl⟩⟩)⟩⟩⟩)⟩⟩⟩)⟩⟩⟩)⟩⟩⟩)⟩⟩⟩)⟩⟩⟩)⟩⟩)⟩⟩⟩)⟩⟩⟩)⟩⟩⟩)⟩⟩⟩)⟩⟩⟩)⟩⟩⟩)⟩⟩⟩)⟩⟩⟩)⟩⟩⟩)⟩⟩⟩)⟩⟩⟩)⟩⟩⟩), wd_t ht hW⟩, hS.F ht⟩) hS.2.2 dX12_isOwn_221
                                      · have c_61 : y_60.toInt ≠ 0 := xI_ne rfl rfl c_61
                                        refine lv_aload_n hx hb dX12_isOwn_205 rfl (lv_at hl 0 rfl) ?_
                                        obtain ⟨y_62, ey_62⟩ : ∃ q, G_38.2.1 66 9 = q := ⟨_, rfl⟩
                                        refine S_getL (v := y_62) (C := RX12) (T := TX12) (N := 89) hx hb hg iX12 hown hK hW kd_66 rfl 9 (lt_b rfl) (hg (Cond.fieldLink RX12 198 "SlabWalkModel" "word" "J") m1323) (fun _ h9 => h9) rfl ey_62 dX12_isOwn_206 ?_
                                        refine lv_ldc2 (v := 7237492) hx hb hown (hg (Cond.constantLong RX12 261 7237492) m1669) dX12_isOwn_209 ?_
                                        refine W.lcmp hx hb dX12_isOwn_212 ?_
                                        refine lv_topi (fun y_63 ey_63 => ?_)
                                        have ty_63 := lcmp_rng ey_63
                                        refine lv_if_ne (tgt := 220) hx hb dX12_isOwn_213 rfl (fun c_64 => ?_) (fun c_64 => ?_)
                                        · have c_64 : y_63.toInt ≠ 0 := xI_ne rfl rfl c_64
                                          refine ic_0 hx hb dX12_isOwn_220 ?_
                                          exact W.zret (v := 0) hx hb hr (by decide) (fun t ht _ => ⟨⟨0, G_38, rfl, (Q_isOwn_mk ⟨hB_G_38, hF, ⟨by decide, by decide⟩, ⟨y_1, ey_1.symm, ⟨y_2, ey_2, (Or.inr ⟨c_3, ⟨y_4, ey_4.symm, ⟨y_5, ey_5, (Or.inr ⟨c_6, ⟨y_7, ey_7.symm, ⟨y_8, ey_8, (Or.inr ⟨c_9, ⟨y_10, ey_10.symm, ⟨y_11, ey_11, (Or.inr ⟨c_12, ⟨y_13, ey_13.symm, ⟨y_14, ey_14, (Or.inr ⟨c_15, ⟨y_16, ey_16.symm, ⟨y_17, ey_17, (Or.inr ⟨c_18, ⟨y_19, ey_19.symm, ⟨y_20, ey_20, (Or.inr ⟨c_21, ⟨y_22, ey_22.symm, ⟨y_23, ey_23, (Or.inr ⟨c_24, ⟨y_25, ey_25.symm, ⟨y_26, ey_26, (Or.inr ⟨c_27, ⟨y_28, ey_28.symm, ⟨y_29, ey_29, (Or.inr ⟨c_30, ⟨y_31, ey_31.symm, ⟨y_32, ey_32, (Or.inr ⟨c_33, ⟨y_34, ey_34.symm, ⟨y_35, ey_35, (Or.inr ⟨c_36, ⟨r_37, G_38, hX_41, (Or.inr ⟨c_43, ⟨y_44, ey_44.symm.trans ((hq_39.l9 66 9 rfl rfl)), ⟨y_45, ey_45, (Or.inr ⟨c_46, ⟨y_47, ey_47.symm.trans ((hq_39.l9 66 9 rfl rfl)), ⟨y_48, ey_48, (Or.inr ⟨c_49, ⟨y_50, ey_50.symm.trans ((hq_39.l9 66 9 rfl rfl)), ⟨y_51, ey_51, (Or.inr ⟨c_52, ⟨y_53, ey_53.symm.trans ((hq_39.l9 66 9 rfl rfl)), ⟨y_54, ey_54, (Or.inr ⟨c_55, ⟨y_56, ey_56.symm.trans ((hq_39.l9 66 9 rfl rfl)), ⟨y_57, ey_57, (Or.inr ⟨c_58, ⟨y_59, ey_59.symm.trans ((hq_39.l9 66 9 rfl rfl)), ⟨y_60, ey_60, (Or.inr ⟨c_61, ⟨y_62, ey_62.symm.trans ((hq_39.l9 66 9 rfl rfl)), ⟨y_63, ey_63, (Or.inr ⟨c_64, ⟨rfl, rfl⟩⟩)⟩⟩⟩)⟩⟩⟩)⟩⟩⟩)⟩⟩⟩)⟩⟩⟩)⟩⟩⟩)⟩⟩⟩)⟩⟩)⟩⟩⟩)⟩⟩⟩)⟩⟩⟩)⟩⟩⟩)⟩⟩⟩)⟩⟩⟩)⟩⟩⟩)⟩⟩⟩)⟩⟩⟩)⟩⟩⟩)⟩⟩⟩)⟩⟩⟩), wd_t ht hW⟩, hS.F ht⟩) hS.2.2 dX12_isOwn_221
                                        · have c_64 : y_63.toInt = 0 := xI_eq rfl rfl c_64
                                          refine ic_1 hx hb dX12_isOwn_216 ?_
                                          refine lv_goto (tgt := 221) hx hb dX12_isOwn_217 rfl ?_
                                          exact W.zret (v := 1) hx hb hr (by decide) (fun t ht _ => ⟨⟨1, G_38, rfl, (Q_isOwn_mk ⟨hB_G_38, hF, ⟨by decide, by decide⟩, ⟨y_1, ey_1.symm, ⟨y_2, ey_2, (Or.inr ⟨c_3, ⟨y_4, ey_4.symm, ⟨y_5, ey_5, (Or.inr ⟨c_6, ⟨y_7, ey_7.symm, ⟨y_8, ey_8, (Or.inr ⟨c_9, ⟨y_10, ey_10.symm, ⟨y_11, ey_11, (Or.inr ⟨c_12, ⟨y_13, ey_13.symm, ⟨y_14, ey_14, (Or.inr ⟨c_15, ⟨y_16, ey_16.symm, ⟨y_17, ey_17, (Or.inr ⟨c_18, ⟨y_19, ey_19.symm, ⟨y_20, ey_20, (Or.inr ⟨c_21, ⟨y_22, ey_22.symm, ⟨y_23, ey_23, (Or.inr ⟨c_24, ⟨y_25, ey_25.symm, ⟨y_26, ey_26, (Or.inr ⟨c_27, ⟨y_28, ey_28.symm, ⟨y_29, ey_29, (Or.inr ⟨c_30, ⟨y_31, ey_31.symm, ⟨y_32, ey_32, (Or.inr ⟨c_33, ⟨y_34, ey_34.symm, ⟨y_35, ey_35, (Or.inr ⟨c_36, ⟨r_37, G_38, hX_41, (Or.inr ⟨c_43, ⟨y_44, ey_44.symm.trans ((hq_39.l9 66 9 rfl rfl)), ⟨y_45, ey_45, (Or.inr ⟨c_46, ⟨y_47, ey_47.symm.trans ((hq_39.l9 66 9 rfl rfl)), ⟨y_48, ey_48, (Or.inr ⟨c_49, ⟨y_50, ey_50.symm.trans ((hq_39.l9 66 9 rfl rfl)), ⟨y_51, ey_51, (Or.inr ⟨c_52, ⟨y_53, ey_53.symm.trans ((hq_39.l9 66 9 rfl rfl)), ⟨y_54, ey_54, (Or.inr ⟨c_55, ⟨y_56, ey_56.symm.trans ((hq_39.l9 66 9 rfl rfl)), ⟨y_57, ey_57, (Or.inr ⟨c_58, ⟨y_59, ey_59.symm.trans ((hq_39.l9 66 9 rfl rfl)), ⟨y_60, ey_60, (Or.inr ⟨c_61, ⟨y_62, ey_62.symm.trans ((hq_39.l9 66 9 rfl rfl)), ⟨y_63, ey_63, (Or.inl ⟨c_64, ⟨rfl, rfl⟩⟩)⟩⟩⟩)⟩⟩⟩)⟩⟩⟩)⟩⟩⟩)⟩⟩⟩)⟩⟩⟩)⟩⟩⟩)⟩⟩)⟩⟩⟩)⟩⟩⟩)⟩⟩⟩)⟩⟩⟩)⟩⟩⟩)⟩⟩⟩)⟩⟩⟩)⟩⟩⟩)⟩⟩⟩)⟩⟩⟩)⟩⟩⟩)⟩⟩⟩), wd_t ht hW⟩, hS.F ht⟩) hS.2.2 dX12_isOwn_221
