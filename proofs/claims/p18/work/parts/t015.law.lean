theorem m1113 : Cond.methodLink RL 92 yX11_brave ∈ gd := gd_mem 1113 (by decide +kernel) (by decide +kernel)
theorem m1114 : Cond.instanceMethod yX11_brave ∈ gd := gd_mem 1114 (by decide +kernel) (by decide +kernel)
theorem m1115 : Cond.selects RX11 yX11_brave yX11_brave ∈ gd := gd_mem 1115 (by decide +kernel) (by decide +kernel)
theorem m1116 : Cond.code yX11_brave cX11_brave 6 (some .long) ∈ gd := gd_mem 1116 (by decide +kernel) (by decide +kernel)
theorem m1134 : Cond.methodLink RL 96 yX11_boldest ∈ gd := gd_mem 1134 (by decide +kernel) (by decide +kernel)
theorem m1135 : Cond.instanceMethod yX11_boldest ∈ gd := gd_mem 1135 (by decide +kernel) (by decide +kernel)
theorem m1136 : Cond.selects RX11 yX11_boldest yX11_boldest ∈ gd := gd_mem 1136 (by decide +kernel) (by decide +kernel)
theorem m1137 : Cond.code yX11_boldest cX11_boldest 6 (some .int) ∈ gd := gd_mem 1137 (by decide +kernel) (by decide +kernel)
theorem m1142 : Cond.methodLink RL 100 yX11_wager ∈ gd := gd_mem 1142 (by decide +kernel) (by decide +kernel)
theorem m1143 : Cond.instanceMethod yX11_wager ∈ gd := gd_mem 1143 (by decide +kernel) (by decide +kernel)
theorem m1144 : Cond.selects RX11 yX11_wager yX11_wager ∈ gd := gd_mem 1144 (by decide +kernel) (by decide +kernel)
theorem m1145 : Cond.code yX11_wager cX11_wager 6 (some .int) ∈ gd := gd_mem 1145 (by decide +kernel) (by decide +kernel)
theorem m1939 : Cond.methodLink RL 95 yX12_brave ∈ gd := gd_mem 1939 (by decide +kernel) (by decide +kernel)
theorem m1940 : Cond.instanceMethod yX12_brave ∈ gd := gd_mem 1940 (by decide +kernel) (by decide +kernel)
theorem m1941 : Cond.selects RX12 yX12_brave yX12_brave ∈ gd := gd_mem 1941 (by decide +kernel) (by decide +kernel)
theorem m1942 : Cond.code yX12_brave cX12_brave 6 (some .long) ∈ gd := gd_mem 1942 (by decide +kernel) (by decide +kernel)
theorem m1963 : Cond.methodLink RL 99 yX12_boldest ∈ gd := gd_mem 1963 (by decide +kernel) (by decide +kernel)
theorem m1964 : Cond.instanceMethod yX12_boldest ∈ gd := gd_mem 1964 (by decide +kernel) (by decide +kernel)
theorem m1965 : Cond.selects RX12 yX12_boldest yX12_boldest ∈ gd := gd_mem 1965 (by decide +kernel) (by decide +kernel)
theorem m1966 : Cond.code yX12_boldest cX12_boldest 9 (some .int) ∈ gd := gd_mem 1966 (by decide +kernel) (by decide +kernel)
theorem m1967 : Cond.methodLink RL 103 yX12_wager ∈ gd := gd_mem 1967 (by decide +kernel) (by decide +kernel)
theorem m1968 : Cond.instanceMethod yX12_wager ∈ gd := gd_mem 1968 (by decide +kernel) (by decide +kernel)
theorem m1969 : Cond.selects RX12 yX12_wager yX12_wager ∈ gd := gd_mem 1969 (by decide +kernel) (by decide +kernel)
theorem m1970 : Cond.code yX12_wager cX12_wager 6 (some .int) ∈ gd := gd_mem 1970 (by decide +kernel) (by decide +kernel)
theorem dL_law_1019 : decode cL_law 1019 = .ok (.aload_n 1, 1) := by decide +kernel
theorem dL_law_1020 : decode cL_law 1020 = .ok (.aload_n 0, 1) := by decide +kernel
theorem dL_law_1021 : decode cL_law 1021 = .ok (.iload_n 3, 1) := by decide +kernel
theorem dL_law_1022 : decode cL_law 1022 = .ok (.iconst 1, 1) := by decide +kernel
theorem dL_law_1023 : decode cL_law 1023 = .ok (.iadd, 1) := by decide +kernel
theorem dL_law_1024 : decode cL_law 1024 = .ok (.iaload, 1) := by decide +kernel
theorem dL_law_1025 : decode cL_law 1025 = .ok (.aload_n 0, 1) := by decide +kernel
theorem dL_law_1026 : decode cL_law 1026 = .ok (.iload_n 3, 1) := by decide +kernel
theorem dL_law_1027 : decode cL_law 1027 = .ok (.iconst 2, 1) := by decide +kernel
theorem dL_law_1028 : decode cL_law 1028 = .ok (.iadd, 1) := by decide +kernel
theorem dL_law_1029 : decode cL_law 1029 = .ok (.iaload, 1) := by decide +kernel
theorem dL_law_1030 : decode cL_law 1030 = .ok (.aload_n 0, 1) := by decide +kernel
theorem dL_law_1031 : decode cL_law 1031 = .ok (.iload_n 3, 1) := by decide +kernel
theorem dL_law_1032 : decode cL_law 1032 = .ok (.iconst 3, 1) := by decide +kernel
theorem dL_law_1033 : decode cL_law 1033 = .ok (.iadd, 1) := by decide +kernel
theorem dL_law_1034 : decode cL_law 1034 = .ok (.iaload, 1) := by decide +kernel
theorem dL_law_1035 : decode cL_law 1035 = .ok (.aload_n 0, 1) := by decide +kernel
theorem dL_law_1036 : decode cL_law 1036 = .ok (.iload_n 3, 1) := by decide +kernel
theorem dL_law_1037 : decode cL_law 1037 = .ok (.iconst 4, 1) := by decide +kernel
theorem dL_law_1038 : decode cL_law 1038 = .ok (.iadd, 1) := by decide +kernel
theorem dL_law_1039 : decode cL_law 1039 = .ok (.iaload, 1) := by decide +kernel
theorem dL_law_1040 : decode cL_law 1040 = .ok (.aload_n 0, 1) := by decide +kernel
theorem dL_law_1041 : decode cL_law 1041 = .ok (.iload_n 3, 1) := by decide +kernel
theorem dL_law_1042 : decode cL_law 1042 = .ok (.iconst 5, 1) := by decide +kernel
theorem dL_law_1043 : decode cL_law 1043 = .ok (.iadd, 1) := by decide +kernel
theorem dL_law_1044 : decode cL_law 1044 = .ok (.iaload, 1) := by decide +kernel
theorem dL_law_1045 : decode cL_law 1045 = .ok (.invokevirtual 92, 3) := by decide +kernel
theorem dL_law_1048 : decode cL_law 1048 = .ok (.pop2, 1) := by decide +kernel
theorem dL_law_1049 : decode cL_law 1049 = .ok (.aload_n 2, 1) := by decide +kernel
theorem dL_law_1050 : decode cL_law 1050 = .ok (.aload_n 0, 1) := by decide +kernel
theorem dL_law_1051 : decode cL_law 1051 = .ok (.iload_n 3, 1) := by decide +kernel
theorem dL_law_1052 : decode cL_law 1052 = .ok (.iconst 1, 1) := by decide +kernel
theorem dL_law_1053 : decode cL_law 1053 = .ok (.iadd, 1) := by decide +kernel
theorem dL_law_1054 : decode cL_law 1054 = .ok (.iaload, 1) := by decide +kernel
theorem dL_law_1055 : decode cL_law 1055 = .ok (.aload_n 0, 1) := by decide +kernel
theorem dL_law_1056 : decode cL_law 1056 = .ok (.iload_n 3, 1) := by decide +kernel
theorem dL_law_1057 : decode cL_law 1057 = .ok (.iconst 2, 1) := by decide +kernel
theorem dL_law_1058 : decode cL_law 1058 = .ok (.iadd, 1) := by decide +kernel
theorem dL_law_1059 : decode cL_law 1059 = .ok (.iaload, 1) := by decide +kernel
theorem dL_law_1060 : decode cL_law 1060 = .ok (.aload_n 0, 1) := by decide +kernel
theorem dL_law_1061 : decode cL_law 1061 = .ok (.iload_n 3, 1) := by decide +kernel
theorem dL_law_1062 : decode cL_law 1062 = .ok (.iconst 3, 1) := by decide +kernel
theorem dL_law_1063 : decode cL_law 1063 = .ok (.iadd, 1) := by decide +kernel
theorem dL_law_1064 : decode cL_law 1064 = .ok (.iaload, 1) := by decide +kernel
theorem dL_law_1065 : decode cL_law 1065 = .ok (.aload_n 0, 1) := by decide +kernel
theorem dL_law_1066 : decode cL_law 1066 = .ok (.iload_n 3, 1) := by decide +kernel
theorem dL_law_1067 : decode cL_law 1067 = .ok (.iconst 4, 1) := by decide +kernel
theorem dL_law_1068 : decode cL_law 1068 = .ok (.iadd, 1) := by decide +kernel
theorem dL_law_1069 : decode cL_law 1069 = .ok (.iaload, 1) := by decide +kernel
theorem dL_law_1070 : decode cL_law 1070 = .ok (.aload_n 0, 1) := by decide +kernel
theorem dL_law_1071 : decode cL_law 1071 = .ok (.iload_n 3, 1) := by decide +kernel
theorem dL_law_1072 : decode cL_law 1072 = .ok (.iconst 5, 1) := by decide +kernel
theorem dL_law_1073 : decode cL_law 1073 = .ok (.iadd, 1) := by decide +kernel
theorem dL_law_1074 : decode cL_law 1074 = .ok (.iaload, 1) := by decide +kernel
theorem dL_law_1075 : decode cL_law 1075 = .ok (.invokevirtual 95, 3) := by decide +kernel
theorem dL_law_1078 : decode cL_law 1078 = .ok (.pop2, 1) := by decide +kernel
theorem dL_law_1079 : decode cL_law 1079 = .ok (.goto 563, 3) := by decide +kernel
theorem dL_law_1082 : decode cL_law 1082 = .ok (.aload_n 1, 1) := by decide +kernel
theorem dL_law_1083 : decode cL_law 1083 = .ok (.aload_n 0, 1) := by decide +kernel
theorem dL_law_1084 : decode cL_law 1084 = .ok (.iload_n 3, 1) := by decide +kernel
theorem dL_law_1085 : decode cL_law 1085 = .ok (.iconst 1, 1) := by decide +kernel
theorem dL_law_1086 : decode cL_law 1086 = .ok (.iadd, 1) := by decide +kernel
theorem dL_law_1087 : decode cL_law 1087 = .ok (.iaload, 1) := by decide +kernel
theorem dL_law_1088 : decode cL_law 1088 = .ok (.aload_n 0, 1) := by decide +kernel
theorem dL_law_1089 : decode cL_law 1089 = .ok (.iload_n 3, 1) := by decide +kernel
theorem dL_law_1090 : decode cL_law 1090 = .ok (.iconst 2, 1) := by decide +kernel
theorem dL_law_1091 : decode cL_law 1091 = .ok (.iadd, 1) := by decide +kernel
theorem dL_law_1092 : decode cL_law 1092 = .ok (.iaload, 1) := by decide +kernel
theorem dL_law_1093 : decode cL_law 1093 = .ok (.aload_n 0, 1) := by decide +kernel
theorem dL_law_1094 : decode cL_law 1094 = .ok (.iload_n 3, 1) := by decide +kernel
theorem dL_law_1095 : decode cL_law 1095 = .ok (.iconst 3, 1) := by decide +kernel
theorem dL_law_1096 : decode cL_law 1096 = .ok (.iadd, 1) := by decide +kernel
theorem dL_law_1097 : decode cL_law 1097 = .ok (.iaload, 1) := by decide +kernel
theorem dL_law_1098 : decode cL_law 1098 = .ok (.aload_n 0, 1) := by decide +kernel
theorem dL_law_1099 : decode cL_law 1099 = .ok (.iload_n 3, 1) := by decide +kernel
theorem dL_law_1100 : decode cL_law 1100 = .ok (.iconst 4, 1) := by decide +kernel
theorem dL_law_1101 : decode cL_law 1101 = .ok (.iadd, 1) := by decide +kernel
theorem dL_law_1102 : decode cL_law 1102 = .ok (.iaload, 1) := by decide +kernel
theorem dL_law_1103 : decode cL_law 1103 = .ok (.aload_n 0, 1) := by decide +kernel
theorem dL_law_1104 : decode cL_law 1104 = .ok (.iload_n 3, 1) := by decide +kernel
theorem dL_law_1105 : decode cL_law 1105 = .ok (.iconst 5, 1) := by decide +kernel
theorem dL_law_1106 : decode cL_law 1106 = .ok (.iadd, 1) := by decide +kernel
theorem dL_law_1107 : decode cL_law 1107 = .ok (.iaload, 1) := by decide +kernel
theorem dL_law_1108 : decode cL_law 1108 = .ok (.invokevirtual 96, 3) := by decide +kernel
theorem dL_law_1111 : decode cL_law 1111 = .ok (.pop, 1) := by decide +kernel
theorem dL_law_1112 : decode cL_law 1112 = .ok (.aload_n 2, 1) := by decide +kernel
theorem dL_law_1113 : decode cL_law 1113 = .ok (.aload_n 0, 1) := by decide +kernel
theorem dL_law_1114 : decode cL_law 1114 = .ok (.iload_n 3, 1) := by decide +kernel
theorem dL_law_1115 : decode cL_law 1115 = .ok (.iconst 1, 1) := by decide +kernel
theorem dL_law_1116 : decode cL_law 1116 = .ok (.iadd, 1) := by decide +kernel
theorem dL_law_1117 : decode cL_law 1117 = .ok (.iaload, 1) := by decide +kernel
theorem dL_law_1118 : decode cL_law 1118 = .ok (.aload_n 0, 1) := by decide +kernel
theorem dL_law_1119 : decode cL_law 1119 = .ok (.iload_n 3, 1) := by decide +kernel
theorem dL_law_1120 : decode cL_law 1120 = .ok (.iconst 2, 1) := by decide +kernel
theorem dL_law_1121 : decode cL_law 1121 = .ok (.iadd, 1) := by decide +kernel
theorem dL_law_1122 : decode cL_law 1122 = .ok (.iaload, 1) := by decide +kernel
theorem dL_law_1123 : decode cL_law 1123 = .ok (.aload_n 0, 1) := by decide +kernel
theorem dL_law_1124 : decode cL_law 1124 = .ok (.iload_n 3, 1) := by decide +kernel
theorem dL_law_1125 : decode cL_law 1125 = .ok (.iconst 3, 1) := by decide +kernel
theorem dL_law_1126 : decode cL_law 1126 = .ok (.iadd, 1) := by decide +kernel
theorem dL_law_1127 : decode cL_law 1127 = .ok (.iaload, 1) := by decide +kernel
theorem dL_law_1128 : decode cL_law 1128 = .ok (.aload_n 0, 1) := by decide +kernel
theorem dL_law_1129 : decode cL_law 1129 = .ok (.iload_n 3, 1) := by decide +kernel
theorem dL_law_1130 : decode cL_law 1130 = .ok (.iconst 4, 1) := by decide +kernel
theorem dL_law_1131 : decode cL_law 1131 = .ok (.iadd, 1) := by decide +kernel
theorem dL_law_1132 : decode cL_law 1132 = .ok (.iaload, 1) := by decide +kernel
theorem dL_law_1133 : decode cL_law 1133 = .ok (.aload_n 0, 1) := by decide +kernel
theorem dL_law_1134 : decode cL_law 1134 = .ok (.iload_n 3, 1) := by decide +kernel
theorem dL_law_1135 : decode cL_law 1135 = .ok (.iconst 5, 1) := by decide +kernel
theorem dL_law_1136 : decode cL_law 1136 = .ok (.iadd, 1) := by decide +kernel
theorem dL_law_1137 : decode cL_law 1137 = .ok (.iaload, 1) := by decide +kernel
theorem dL_law_1138 : decode cL_law 1138 = .ok (.invokevirtual 99, 3) := by decide +kernel
theorem dL_law_1141 : decode cL_law 1141 = .ok (.pop, 1) := by decide +kernel
theorem dL_law_1142 : decode cL_law 1142 = .ok (.goto 500, 3) := by decide +kernel
theorem dL_law_1145 : decode cL_law 1145 = .ok (.aload_n 1, 1) := by decide +kernel
theorem dL_law_1146 : decode cL_law 1146 = .ok (.aload_n 0, 1) := by decide +kernel
theorem dL_law_1147 : decode cL_law 1147 = .ok (.iload_n 3, 1) := by decide +kernel
theorem dL_law_1148 : decode cL_law 1148 = .ok (.iconst 1, 1) := by decide +kernel
theorem dL_law_1149 : decode cL_law 1149 = .ok (.iadd, 1) := by decide +kernel
theorem dL_law_1150 : decode cL_law 1150 = .ok (.iaload, 1) := by decide +kernel
theorem dL_law_1151 : decode cL_law 1151 = .ok (.aload_n 0, 1) := by decide +kernel
theorem dL_law_1152 : decode cL_law 1152 = .ok (.iload_n 3, 1) := by decide +kernel
theorem dL_law_1153 : decode cL_law 1153 = .ok (.iconst 2, 1) := by decide +kernel
theorem dL_law_1154 : decode cL_law 1154 = .ok (.iadd, 1) := by decide +kernel
theorem dL_law_1155 : decode cL_law 1155 = .ok (.iaload, 1) := by decide +kernel
theorem dL_law_1156 : decode cL_law 1156 = .ok (.aload_n 0, 1) := by decide +kernel
theorem dL_law_1157 : decode cL_law 1157 = .ok (.iload_n 3, 1) := by decide +kernel
theorem dL_law_1158 : decode cL_law 1158 = .ok (.iconst 3, 1) := by decide +kernel
theorem dL_law_1159 : decode cL_law 1159 = .ok (.iadd, 1) := by decide +kernel
theorem dL_law_1160 : decode cL_law 1160 = .ok (.iaload, 1) := by decide +kernel
theorem dL_law_1161 : decode cL_law 1161 = .ok (.aload_n 0, 1) := by decide +kernel
theorem dL_law_1162 : decode cL_law 1162 = .ok (.iload_n 3, 1) := by decide +kernel
theorem dL_law_1163 : decode cL_law 1163 = .ok (.iconst 4, 1) := by decide +kernel
theorem dL_law_1164 : decode cL_law 1164 = .ok (.iadd, 1) := by decide +kernel
theorem dL_law_1165 : decode cL_law 1165 = .ok (.iaload, 1) := by decide +kernel
theorem dL_law_1166 : decode cL_law 1166 = .ok (.invokevirtual 100, 3) := by decide +kernel
theorem dL_law_1169 : decode cL_law 1169 = .ok (.pop, 1) := by decide +kernel
theorem dL_law_1170 : decode cL_law 1170 = .ok (.aload_n 2, 1) := by decide +kernel
theorem dL_law_1171 : decode cL_law 1171 = .ok (.aload_n 0, 1) := by decide +kernel
theorem dL_law_1172 : decode cL_law 1172 = .ok (.iload_n 3, 1) := by decide +kernel
theorem dL_law_1173 : decode cL_law 1173 = .ok (.iconst 1, 1) := by decide +kernel
theorem dL_law_1174 : decode cL_law 1174 = .ok (.iadd, 1) := by decide +kernel
theorem dL_law_1175 : decode cL_law 1175 = .ok (.iaload, 1) := by decide +kernel
theorem dL_law_1176 : decode cL_law 1176 = .ok (.aload_n 0, 1) := by decide +kernel
theorem dL_law_1177 : decode cL_law 1177 = .ok (.iload_n 3, 1) := by decide +kernel
theorem dL_law_1178 : decode cL_law 1178 = .ok (.iconst 2, 1) := by decide +kernel
theorem dL_law_1179 : decode cL_law 1179 = .ok (.iadd, 1) := by decide +kernel
theorem dL_law_1180 : decode cL_law 1180 = .ok (.iaload, 1) := by decide +kernel
theorem dL_law_1181 : decode cL_law 1181 = .ok (.aload_n 0, 1) := by decide +kernel
theorem dL_law_1182 : decode cL_law 1182 = .ok (.iload_n 3, 1) := by decide +kernel
theorem dL_law_1183 : decode cL_law 1183 = .ok (.iconst 3, 1) := by decide +kernel
theorem dL_law_1184 : decode cL_law 1184 = .ok (.iadd, 1) := by decide +kernel
theorem dL_law_1185 : decode cL_law 1185 = .ok (.iaload, 1) := by decide +kernel
theorem dL_law_1186 : decode cL_law 1186 = .ok (.aload_n 0, 1) := by decide +kernel
theorem dL_law_1187 : decode cL_law 1187 = .ok (.iload_n 3, 1) := by decide +kernel
theorem dL_law_1188 : decode cL_law 1188 = .ok (.iconst 4, 1) := by decide +kernel
theorem dL_law_1189 : decode cL_law 1189 = .ok (.iadd, 1) := by decide +kernel
theorem dL_law_1190 : decode cL_law 1190 = .ok (.iaload, 1) := by decide +kernel
theorem dL_law_1191 : decode cL_law 1191 = .ok (.invokevirtual 103, 3) := by decide +kernel
theorem dL_law_1194 : decode cL_law 1194 = .ok (.pop, 1) := by decide +kernel
theorem dL_law_1195 : decode cL_law 1195 = .ok (.goto 447, 3) := by decide +kernel
set_option maxHeartbeats 4000000 in
set_option maxRecDepth 100000 in
theorem law_18 {p : Program} {l : Launch} {e : Env} {s : State} {m : MethodId} {below : List Frame} {meth : Method} {c : Code} {D : va_G} {k : KT} {A : Nat → Prop} {a : Nat → Nat} {z : SK} {b L : Nat} {xs : Nat → Int32} (hL : L ≤ 3072) (C0 : lw_At p s m meth c b L xs) (hK : cK D k s) (hZ : Sx A z s) (hbA : ¬ A b) (hA : ∀ q : Nat, s.heap.size ≤ q → A q) {G : GS} {i0 : Int32} (hi0 : 0 ≤ i0.toInt) (hi6 : i0.toInt + 6 ≤ L) (hI : LI G) (hB_G : Bd G) {H : Heap} {locs : List Loc} {ls : Array Slot} (hW : Wd D k A a G H) (hS : va_S A s.heap H locs) (hl : lv_has ls 4 [(0, .ref b), (1, .ref (a 0)), (2, .ref (a 66)), (3, .int i0)]) (K : ∀ (G1 : GS) (H1 : Heap) (locs1 : List Loc) (ls1 : Array Slot), LI G1 → Bd G1 → Wd D k A a G1 H1 → va_S A s.heap H1 locs1 → lv_has ls1 4 [(0, .ref b), (1, .ref (a 0)), (2, .ref (a 66)), (3, .int i0)] → W p l e room_1 s m #[Value.ref b] below meth c H1 locs1 119 46443 (lw_Z below #[Value.ref b] s) (F0 m 1642 ls1 [])) : W p l e room_1 s m #[Value.ref b] below meth c H locs 119 46443 (lw_Z below #[Value.ref b] s) (F0 m 1019 ls []) := by
  obtain ⟨hx, hb, hr, hml, hown, hts, hX, hbl, hlocks, hgv⟩ := id C0
  have hown : s.vm.findClass RL = some m.cls := hown
  have hgd : ∀ w ∈ gd, w ∈ lw_tbl := fun w h => (List.mem_filter.mp h).1
  have hg : ∀ w ∈ gd, w.before #[Value.ref b] s = true := fun w h => hts w (hgd w h)
  rcases hI with ⟨hv_0_0, hv_0_1, hv_6_4, hj0, hj1, hj2, hj3, hj4, hj5, hj6, hj7, hj8⟩ | ⟨hv_0_0, hv_0_1, hv_6_4, hj0, hj1, hj2, hj3, hj4, hj5, hj6, hj7, hj8⟩
  · skip
    refine lv_aload_n hx hb dL_law_1019 rfl (lv_at hl 1 rfl) ?_
    refine lv_aload_n hx hb dL_law_1020 rfl (lv_at hl 0 rfl) ?_
    refine lv_iload_n hx hb dL_law_1021 rfl (lv_at hl 3 rfl) ?_
    refine lv_iconst (v := 1) hx hb dL_law_1022 (by decide) ?_
    refine lv_iadd hx hb dL_law_1023 ?_
    refine lv_topi (fun y_1 ey_1 => ?_)
    have ty_1 : y_1.toInt = i0.toInt + 1 := xI_add rfl rfl ey_1 (by omega) (by omega)
    refine va_sld hx hb hX hbl hbA hS (vin (by omega) (by omega)) dL_law_1024 ?_
    refine lv_topi (fun y_2 ey_2 => ?_)
    have u_3 : y_2.toInt = (xs (i0 + 1).toNatClampNeg).toInt := by rw [ey_2, ey_1]
    refine lv_aload_n hx hb dL_law_1025 rfl (lv_at hl 0 rfl) ?_
    refine lv_iload_n hx hb dL_law_1026 rfl (lv_at hl 3 rfl) ?_
    refine lv_iconst (v := 2) hx hb dL_law_1027 (by decide) ?_
    refine lv_iadd hx hb dL_law_1028 ?_
    refine lv_topi (fun y_4 ey_4 => ?_)
    have ty_4 : y_4.toInt = i0.toInt + 2 := xI_add rfl rfl ey_4 (by omega) (by omega)
    refine va_sld hx hb hX hbl hbA hS (vin (by omega) (by omega)) dL_law_1029 ?_
    refine lv_topi (fun y_5 ey_5 => ?_)
    have u_6 : y_5.toInt = (xs (i0 + 2).toNatClampNeg).toInt := by rw [ey_5, ey_4]
    refine lv_aload_n hx hb dL_law_1030 rfl (lv_at hl 0 rfl) ?_
    refine lv_iload_n hx hb dL_law_1031 rfl (lv_at hl 3 rfl) ?_
    refine lv_iconst (v := 3) hx hb dL_law_1032 (by decide) ?_
    refine lv_iadd hx hb dL_law_1033 ?_
    refine lv_topi (fun y_7 ey_7 => ?_)
    have ty_7 : y_7.toInt = i0.toInt + 3 := xI_add rfl rfl ey_7 (by omega) (by omega)
    refine va_sld hx hb hX hbl hbA hS (vin (by omega) (by omega)) dL_law_1034 ?_
    refine lv_topi (fun y_8 ey_8 => ?_)
    have u_9 : y_8.toInt = (xs (i0 + 3).toNatClampNeg).toInt := by rw [ey_8, ey_7]
    refine lv_aload_n hx hb dL_law_1035 rfl (lv_at hl 0 rfl) ?_
    refine lv_iload_n hx hb dL_law_1036 rfl (lv_at hl 3 rfl) ?_
    refine lv_iconst (v := 4) hx hb dL_law_1037 (by decide) ?_
    refine lv_iadd hx hb dL_law_1038 ?_
    refine lv_topi (fun y_10 ey_10 => ?_)
    have ty_10 : y_10.toInt = i0.toInt + 4 := xI_add rfl rfl ey_10 (by omega) (by omega)
    refine va_sld hx hb hX hbl hbA hS (vin (by omega) (by omega)) dL_law_1039 ?_
    refine lv_topi (fun y_11 ey_11 => ?_)
    have u_12 : y_11.toInt = (xs (i0 + 4).toNatClampNeg).toInt := by rw [ey_11, ey_10]
    refine lv_aload_n hx hb dL_law_1040 rfl (lv_at hl 0 rfl) ?_
    refine lv_iload_n hx hb dL_law_1041 rfl (lv_at hl 3 rfl) ?_
    refine lv_iconst (v := 5) hx hb dL_law_1042 (by decide) ?_
    refine lv_iadd hx hb dL_law_1043 ?_
    refine lv_topi (fun y_13 ey_13 => ?_)
    have ty_13 : y_13.toInt = i0.toInt + 5 := xI_add rfl rfl ey_13 (by omega) (by omega)
    refine va_sld hx hb hX hbl hbA hS (vin (by omega) (by omega)) dL_law_1044 ?_
    refine lv_topi (fun y_14 ey_14 => ?_)
    have u_15 : y_14.toInt = (xs (i0 + 5).toNatClampNeg).toInt := by rw [ey_14, ey_13]
    refine S_calll (va_runV (As := [.int y_2, .int y_5, .int y_8, .int y_11, .int y_14]) (rest := []) ⟨hx, hb, hml, hown, hts⟩ (k_Wbrave_1 l D k A a z G y_2 y_5 y_8 y_11 y_14 hv_0_0 hv_0_1 hv_6_4) (cwV 5 hts (gd_V hgd m1113 m1114 m1115 m117 m1116) rfl rfl rfl (by decide +kernel) ⟨Nat.le_of_ble_eq_true rfl, Nat.le_of_ble_eq_true rfl⟩) (pre_V hW hB_G hK hZ hS kd_0 rfl) rfl rfl hl.1 rfl (lv_room (Nat.le_of_ble_eq_true rfl)) dL_law_1045 ⟨Nat.le_of_ble_eq_true rfl, Nat.le_of_ble_eq_true rfl⟩) hS (fun r_16 G_17 H locs hpo hW hS => ?_)
    obtain ⟨hB_G_17, hq_18⟩ := hpo
    refine lv_pop2_2 hx hb dL_law_1048 rfl ?_
    refine lv_aload_n hx hb dL_law_1049 rfl (lv_at hl 2 rfl) ?_
    refine lv_aload_n hx hb dL_law_1050 rfl (lv_at hl 0 rfl) ?_
    refine lv_iload_n hx hb dL_law_1051 rfl (lv_at hl 3 rfl) ?_
    refine lv_iconst (v := 1) hx hb dL_law_1052 (by decide) ?_
    refine lv_iadd hx hb dL_law_1053 ?_
    refine lv_topi (fun y_20 ey_20 => ?_)
    have ty_20 : y_20.toInt = i0.toInt + 1 := xI_add rfl rfl ey_20 (by omega) (by omega)
    refine va_sld hx hb hX hbl hbA hS (vin (by omega) (by omega)) dL_law_1054 ?_
    refine lv_topi (fun y_21 ey_21 => ?_)
    have u_22 : y_21.toInt = (xs (i0 + 1).toNatClampNeg).toInt := by rw [ey_21, ey_20]
    refine lv_aload_n hx hb dL_law_1055 rfl (lv_at hl 0 rfl) ?_
    refine lv_iload_n hx hb dL_law_1056 rfl (lv_at hl 3 rfl) ?_
    refine lv_iconst (v := 2) hx hb dL_law_1057 (by decide) ?_
    refine lv_iadd hx hb dL_law_1058 ?_
    refine lv_topi (fun y_23 ey_23 => ?_)
    have ty_23 : y_23.toInt = i0.toInt + 2 := xI_add rfl rfl ey_23 (by omega) (by omega)
    refine va_sld hx hb hX hbl hbA hS (vin (by omega) (by omega)) dL_law_1059 ?_
    refine lv_topi (fun y_24 ey_24 => ?_)
    have u_25 : y_24.toInt = (xs (i0 + 2).toNatClampNeg).toInt := by rw [ey_24, ey_23]
    refine lv_aload_n hx hb dL_law_1060 rfl (lv_at hl 0 rfl) ?_
    refine lv_iload_n hx hb dL_law_1061 rfl (lv_at hl 3 rfl) ?_
    refine lv_iconst (v := 3) hx hb dL_law_1062 (by decide) ?_
    refine lv_iadd hx hb dL_law_1063 ?_
    refine lv_topi (fun y_26 ey_26 => ?_)
    have ty_26 : y_26.toInt = i0.toInt + 3 := xI_add rfl rfl ey_26 (by omega) (by omega)
    refine va_sld hx hb hX hbl hbA hS (vin (by omega) (by omega)) dL_law_1064 ?_
    refine lv_topi (fun y_27 ey_27 => ?_)
    have u_28 : y_27.toInt = (xs (i0 + 3).toNatClampNeg).toInt := by rw [ey_27, ey_26]
    refine lv_aload_n hx hb dL_law_1065 rfl (lv_at hl 0 rfl) ?_
    refine lv_iload_n hx hb dL_law_1066 rfl (lv_at hl 3 rfl) ?_
    refine lv_iconst (v := 4) hx hb dL_law_1067 (by decide) ?_
    refine lv_iadd hx hb dL_law_1068 ?_
    refine lv_topi (fun y_29 ey_29 => ?_)
    have ty_29 : y_29.toInt = i0.toInt + 4 := xI_add rfl rfl ey_29 (by omega) (by omega)
    refine va_sld hx hb hX hbl hbA hS (vin (by omega) (by omega)) dL_law_1069 ?_
    refine lv_topi (fun y_30 ey_30 => ?_)
    have u_31 : y_30.toInt = (xs (i0 + 4).toNatClampNeg).toInt := by rw [ey_30, ey_29]
    refine lv_aload_n hx hb dL_law_1070 rfl (lv_at hl 0 rfl) ?_
    refine lv_iload_n hx hb dL_law_1071 rfl (lv_at hl 3 rfl) ?_
    refine lv_iconst (v := 5) hx hb dL_law_1072 (by decide) ?_
    refine lv_iadd hx hb dL_law_1073 ?_
    refine lv_topi (fun y_32 ey_32 => ?_)
    have ty_32 : y_32.toInt = i0.toInt + 5 := xI_add rfl rfl ey_32 (by omega) (by omega)
    refine va_sld hx hb hX hbl hbA hS (vin (by omega) (by omega)) dL_law_1074 ?_
    refine lv_topi (fun y_33 ey_33 => ?_)
    have u_34 : y_33.toInt = (xs (i0 + 5).toNatClampNeg).toInt := by rw [ey_33, ey_32]
    have g_35 : gP G_17 = gP G := gP_fr (rs := [37, 38, 39, 40, 56, 57]) (fs := [(6, 3), (7, 1), (7, 2), (7, 3), (7, 4), (7, 5), (7, 6), (7, 7), (29, 6)]) (Fr.rf.call hq_18 (by decide) (by decide)) (by decide) (by decide)
    have g_36 : gW G_17 = gW G := gW_fr (rs := [37, 38, 39, 40, 56, 57]) (fs := [(6, 3), (7, 1), (7, 2), (7, 3), (7, 4), (7, 5), (7, 6), (7, 7), (29, 6)]) (Fr.rf.call hq_18 (by decide) (by decide)) (by decide) (by decide)
    have g_37 : gO G_17 = gO G := gO_fr (rs := [37, 38, 39, 40, 56, 57]) (fs := [(6, 3), (7, 1), (7, 2), (7, 3), (7, 4), (7, 5), (7, 6), (7, 7), (29, 6)]) (Fr.rf.call hq_18 (by decide) (by decide)) (by decide) (by decide)
    refine S_calll (va_runV (As := [.int y_21, .int y_24, .int y_27, .int y_30, .int y_33]) (rest := []) ⟨hx, hb, hml, hown, hts⟩ (n_brave l D k A a z G_17 y_21 y_24 y_27 y_30 y_33 (by omega) (by omega) (by omega)) (cwV 5 hts (gd_V hgd m1939 m1940 m1941 m131 m1942) rfl rfl rfl (by decide +kernel) ⟨Nat.le_of_ble_eq_true rfl, Nat.le_of_ble_eq_true rfl⟩) (pre_V hW hB_G_17 hK hZ hS kd_66 rfl) rfl rfl hl.1 rfl (lv_room (Nat.le_of_ble_eq_true rfl)) dL_law_1075 ⟨Nat.le_of_ble_eq_true rfl, Nat.le_of_ble_eq_true rfl⟩) hS (fun r_38 G_39 H locs hpo hW hS => ?_)
    obtain ⟨hB_G_39, hq_40, hp_41⟩ := hpo
    refine lv_pop2_2 hx hb dL_law_1078 rfl ?_
    refine lv_goto (tgt := 1642) hx hb dL_law_1079 (by decide) ?_
    have g_42 : gP G_39 = gP G := gP_fr (rs := [37, 38, 39, 40, 56, 57, 76, 97, 98, 106]) (fs := [(6, 3), (7, 1), (7, 2), (7, 3), (7, 4), (7, 5), (7, 6), (7, 7), (29, 6), (66, 59), (66, 60), (66, 61), (66, 62), (66, 63)]) ((Fr.rf.call hq_18 (by decide) (by decide)).call hq_40 (by decide) (by decide)) (by decide) (by decide)
    have g_43 : gS G_39 = gS G := gS_fr (rs := [37, 38, 39, 40, 56, 57, 76, 97, 98, 106]) (fs := [(6, 3), (7, 1), (7, 2), (7, 3), (7, 4), (7, 5), (7, 6), (7, 7), (29, 6), (66, 59), (66, 60), (66, 61), (66, 62), (66, 63)]) ((Fr.rf.call hq_18 (by decide) (by decide)).call hq_40 (by decide) (by decide)) (by decide) (by decide)
    have g_44 : gW G_39 = gW G := gW_fr (rs := [37, 38, 39, 40, 56, 57, 76, 97, 98, 106]) (fs := [(6, 3), (7, 1), (7, 2), (7, 3), (7, 4), (7, 5), (7, 6), (7, 7), (29, 6), (66, 59), (66, 60), (66, 61), (66, 62), (66, 63)]) ((Fr.rf.call hq_18 (by decide) (by decide)).call hq_40 (by decide) (by decide)) (by decide) (by decide)
    have b_45 : 0 ≤ (G.1 0 11).toInt ∧ (G.1 0 11).toInt ≤ 1600 := hB_G.i 0 11 rfl rfl
    have g_46 : (G_39.1 0 11).toInt = (G.1 0 11).toInt := by rw [show G_39.1 0 11 = (G.1 0 11) from ((hq_40.i 0 11 (by decide) (by decide)).trans (hq_18.i 0 11 (by decide) (by decide)))]
    have b_47 : 0 ≤ (G.1 30 4).toInt ∧ (G.1 30 4).toInt ≤ 40 := hB_G.i 30 4 rfl rfl
    have g_48 : (G_39.1 30 4).toInt = (G.1 30 4).toInt := by rw [show G_39.1 30 4 = (G.1 30 4) from ((hq_40.i 30 4 (by decide) (by decide)).trans (hq_18.i 30 4 (by decide) (by decide)))]
    have b_49 : 0 ≤ (G.1 30 5).toInt ∧ (G.1 30 5).toInt ≤ 40 := hB_G.i 30 5 rfl rfl
    have g_50 : (G_39.1 30 5).toInt = (G.1 30 5).toInt := by rw [show G_39.1 30 5 = (G.1 30 5) from ((hq_40.i 30 5 (by decide) (by decide)).trans (hq_18.i 30 5 (by decide) (by decide)))]
    have b_51 : 0 ≤ (G.1 31 6).toInt ∧ (G.1 31 6).toInt ≤ 100000 := hB_G.i 31 6 rfl rfl
    have g_52 : (G_39.1 31 6).toInt = (G.1 31 6).toInt := by rw [show G_39.1 31 6 = (G.1 31 6) from ((hq_40.i 31 6 (by decide) (by decide)).trans (hq_18.i 31 6 (by decide) (by decide)))]
    have b_53 : 0 ≤ (G.1 66 1).toInt ∧ (G.1 66 1).toInt ≤ 1600 := hB_G.i 66 1 rfl rfl
    have g_54 : (G_39.1 66 1).toInt = (G.1 66 1).toInt := by rw [show G_39.1 66 1 = (G.1 66 1) from ((hq_40.i 66 1 (by decide) (by decide)).trans (hq_18.i 66 1 (by decide) (by decide)))]
    have b_55 : 0 ≤ (G.1 66 78).toInt ∧ (G.1 66 78).toInt ≤ 40 := hB_G.i 66 78 rfl rfl
    have g_56 : (G_39.1 66 78).toInt = (G.1 66 78).toInt := by rw [show G_39.1 66 78 = (G.1 66 78) from ((hq_40.i 66 78 (by decide) (by decide)).trans (hq_18.i 66 78 (by decide) (by decide)))]
    have b_57 : 0 ≤ (G.1 66 79).toInt ∧ (G.1 66 79).toInt ≤ 40 := hB_G.i 66 79 rfl rfl
    have g_58 : (G_39.1 66 79).toInt = (G.1 66 79).toInt := by rw [show G_39.1 66 79 = (G.1 66 79) from ((hq_40.i 66 79 (by decide) (by decide)).trans (hq_18.i 66 79 (by decide) (by decide)))]
    have b_59 : 0 ≤ (G.1 66 86).toInt ∧ (G.1 66 86).toInt ≤ 100000 := hB_G.i 66 86 rfl rfl
    have g_60 : (G_39.1 66 86).toInt = (G.1 66 86).toInt := by rw [show G_39.1 66 86 = (G.1 66 86) from ((hq_40.i 66 86 (by decide) (by decide)).trans (hq_18.i 66 86 (by decide) (by decide)))]
    have b_61 : 0 ≤ (G.1 96 0).toInt ∧ (G.1 96 0).toInt ≤ 9 := hB_G.i 96 0 rfl rfl
    have g_62 : (G_39.1 96 0).toInt = (G.1 96 0).toInt := by rw [show G_39.1 96 0 = (G.1 96 0) from ((hq_40.i 96 0 (by decide) (by decide)).trans (hq_18.i 96 0 (by decide) (by decide)))]
    have b_63 : 0 ≤ (G.1 96 1).toInt ∧ (G.1 96 1).toInt ≤ 9 := hB_G.i 96 1 rfl rfl
    have g_64 : (G_39.1 96 1).toInt = (G.1 96 1).toInt := by rw [show G_39.1 96 1 = (G.1 96 1) from ((hq_40.i 96 1 (by decide) (by decide)).trans (hq_18.i 96 1 (by decide) (by decide)))]
    have b_65 : 0 ≤ (G.1 96 2).toInt ∧ (G.1 96 2).toInt ≤ 9 := hB_G.i 96 2 rfl rfl
    have g_66 : (G_39.1 96 2).toInt = (G.1 96 2).toInt := by rw [show G_39.1 96 2 = (G.1 96 2) from ((hq_40.i 96 2 (by decide) (by decide)).trans (hq_18.i 96 2 (by decide) (by decide)))]
    exact K G_39 _ _ _ (Or.inl ⟨((((hq_40.r 0 0 (by decide) (by decide)).trans (hq_18.r 0 0 (by decide) (by decide)))).trans (hv_0_0)), ((((hq_40.r 0 1 (by decide) (by decide)).trans (hq_18.r 0 1 (by decide) (by decide)))).trans (hv_0_1)), ((((hq_40.r 6 4 (by decide) (by decide)).trans (hq_18.r 6 4 (by decide) (by decide)))).trans (hv_6_4)), by omega, by omega, by omega, by omega, by omega, by omega, by omega, by omega, by omega⟩) hB_G_39 hW hS (lv_sub hl [0, 1, 2, 3] rfl)
  · skip
    refine lv_aload_n hx hb dL_law_1019 rfl (lv_at hl 1 rfl) ?_
    refine lv_aload_n hx hb dL_law_1020 rfl (lv_at hl 0 rfl) ?_
    refine lv_iload_n hx hb dL_law_1021 rfl (lv_at hl 3 rfl) ?_
    refine lv_iconst (v := 1) hx hb dL_law_1022 (by decide) ?_
    refine lv_iadd hx hb dL_law_1023 ?_
    refine lv_topi (fun y_1 ey_1 => ?_)
    have ty_1 : y_1.toInt = i0.toInt + 1 := xI_add rfl rfl ey_1 (by omega) (by omega)
    refine va_sld hx hb hX hbl hbA hS (vin (by omega) (by omega)) dL_law_1024 ?_
    refine lv_topi (fun y_2 ey_2 => ?_)
    have u_3 : y_2.toInt = (xs (i0 + 1).toNatClampNeg).toInt := by rw [ey_2, ey_1]
    refine lv_aload_n hx hb dL_law_1025 rfl (lv_at hl 0 rfl) ?_
    refine lv_iload_n hx hb dL_law_1026 rfl (lv_at hl 3 rfl) ?_
    refine lv_iconst (v := 2) hx hb dL_law_1027 (by decide) ?_
    refine lv_iadd hx hb dL_law_1028 ?_
    refine lv_topi (fun y_4 ey_4 => ?_)
    have ty_4 : y_4.toInt = i0.toInt + 2 := xI_add rfl rfl ey_4 (by omega) (by omega)
    refine va_sld hx hb hX hbl hbA hS (vin (by omega) (by omega)) dL_law_1029 ?_
    refine lv_topi (fun y_5 ey_5 => ?_)
    have u_6 : y_5.toInt = (xs (i0 + 2).toNatClampNeg).toInt := by rw [ey_5, ey_4]
    refine lv_aload_n hx hb dL_law_1030 rfl (lv_at hl 0 rfl) ?_
    refine lv_iload_n hx hb dL_law_1031 rfl (lv_at hl 3 rfl) ?_
    refine lv_iconst (v := 3) hx hb dL_law_1032 (by decide) ?_
    refine lv_iadd hx hb dL_law_1033 ?_
    refine lv_topi (fun y_7 ey_7 => ?_)
    have ty_7 : y_7.toInt = i0.toInt + 3 := xI_add rfl rfl ey_7 (by omega) (by omega)
    refine va_sld hx hb hX hbl hbA hS (vin (by omega) (by omega)) dL_law_1034 ?_
    refine lv_topi (fun y_8 ey_8 => ?_)
    have u_9 : y_8.toInt = (xs (i0 + 3).toNatClampNeg).toInt := by rw [ey_8, ey_7]
    refine lv_aload_n hx hb dL_law_1035 rfl (lv_at hl 0 rfl) ?_
    refine lv_iload_n hx hb dL_law_1036 rfl (lv_at hl 3 rfl) ?_
    refine lv_iconst (v := 4) hx hb dL_law_1037 (by decide) ?_
    refine lv_iadd hx hb dL_law_1038 ?_
    refine lv_topi (fun y_10 ey_10 => ?_)
    have ty_10 : y_10.toInt = i0.toInt + 4 := xI_add rfl rfl ey_10 (by omega) (by omega)
    refine va_sld hx hb hX hbl hbA hS (vin (by omega) (by omega)) dL_law_1039 ?_
    refine lv_topi (fun y_11 ey_11 => ?_)
    have u_12 : y_11.toInt = (xs (i0 + 4).toNatClampNeg).toInt := by rw [ey_11, ey_10]
    refine lv_aload_n hx hb dL_law_1040 rfl (lv_at hl 0 rfl) ?_
    refine lv_iload_n hx hb dL_law_1041 rfl (lv_at hl 3 rfl) ?_
    refine lv_iconst (v := 5) hx hb dL_law_1042 (by decide) ?_
    refine lv_iadd hx hb dL_law_1043 ?_
    refine lv_topi (fun y_13 ey_13 => ?_)
    have ty_13 : y_13.toInt = i0.toInt + 5 := xI_add rfl rfl ey_13 (by omega) (by omega)
    refine va_sld hx hb hX hbl hbA hS (vin (by omega) (by omega)) dL_law_1044 ?_
    refine lv_topi (fun y_14 ey_14 => ?_)
    have u_15 : y_14.toInt = (xs (i0 + 5).toNatClampNeg).toInt := by rw [ey_14, ey_13]
    refine S_calll (va_runV (As := [.int y_2, .int y_5, .int y_8, .int y_11, .int y_14]) (rest := []) ⟨hx, hb, hml, hown, hts⟩ (k_Wbrave_2 l D k A a z G y_2 y_5 y_8 y_11 y_14 hv_0_0 hv_0_1 hv_6_4) (cwV 5 hts (gd_V hgd m1113 m1114 m1115 m117 m1116) rfl rfl rfl (by decide +kernel) ⟨Nat.le_of_ble_eq_true rfl, Nat.le_of_ble_eq_true rfl⟩) (pre_V hW hB_G hK hZ hS kd_0 rfl) rfl rfl hl.1 rfl (lv_room (Nat.le_of_ble_eq_true rfl)) dL_law_1045 ⟨Nat.le_of_ble_eq_true rfl, Nat.le_of_ble_eq_true rfl⟩) hS (fun r_16 G_17 H locs hpo hW hS => ?_)
    obtain ⟨hB_G_17, hq_18⟩ := hpo
    refine lv_pop2_2 hx hb dL_law_1048 rfl ?_
    refine lv_aload_n hx hb dL_law_1049 rfl (lv_at hl 2 rfl) ?_
    refine lv_aload_n hx hb dL_law_1050 rfl (lv_at hl 0 rfl) ?_
    refine lv_iload_n hx hb dL_law_1051 rfl (lv_at hl 3 rfl) ?_
    refine lv_iconst (v := 1) hx hb dL_law_1052 (by decide) ?_
    refine lv_iadd hx hb dL_law_1053 ?_
    refine lv_topi (fun y_20 ey_20 => ?_)
    have ty_20 : y_20.toInt = i0.toInt + 1 := xI_add rfl rfl ey_20 (by omega) (by omega)
    refine va_sld hx hb hX hbl hbA hS (vin (by omega) (by omega)) dL_law_1054 ?_
    refine lv_topi (fun y_21 ey_21 => ?_)
    have u_22 : y_21.toInt = (xs (i0 + 1).toNatClampNeg).toInt := by rw [ey_21, ey_20]
    refine lv_aload_n hx hb dL_law_1055 rfl (lv_at hl 0 rfl) ?_
    refine lv_iload_n hx hb dL_law_1056 rfl (lv_at hl 3 rfl) ?_
    refine lv_iconst (v := 2) hx hb dL_law_1057 (by decide) ?_
    refine lv_iadd hx hb dL_law_1058 ?_
    refine lv_topi (fun y_23 ey_23 => ?_)
    have ty_23 : y_23.toInt = i0.toInt + 2 := xI_add rfl rfl ey_23 (by omega) (by omega)
    refine va_sld hx hb hX hbl hbA hS (vin (by omega) (by omega)) dL_law_1059 ?_
    refine lv_topi (fun y_24 ey_24 => ?_)
    have u_25 : y_24.toInt = (xs (i0 + 2).toNatClampNeg).toInt := by rw [ey_24, ey_23]
    refine lv_aload_n hx hb dL_law_1060 rfl (lv_at hl 0 rfl) ?_
    refine lv_iload_n hx hb dL_law_1061 rfl (lv_at hl 3 rfl) ?_
    refine lv_iconst (v := 3) hx hb dL_law_1062 (by decide) ?_
    refine lv_iadd hx hb dL_law_1063 ?_
    refine lv_topi (fun y_26 ey_26 => ?_)
    have ty_26 : y_26.toInt = i0.toInt + 3 := xI_add rfl rfl ey_26 (by omega) (by omega)
    refine va_sld hx hb hX hbl hbA hS (vin (by omega) (by omega)) dL_law_1064 ?_
    refine lv_topi (fun y_27 ey_27 => ?_)
    have u_28 : y_27.toInt = (xs (i0 + 3).toNatClampNeg).toInt := by rw [ey_27, ey_26]
    refine lv_aload_n hx hb dL_law_1065 rfl (lv_at hl 0 rfl) ?_
    refine lv_iload_n hx hb dL_law_1066 rfl (lv_at hl 3 rfl) ?_
    refine lv_iconst (v := 4) hx hb dL_law_1067 (by decide) ?_
    refine lv_iadd hx hb dL_law_1068 ?_
    refine lv_topi (fun y_29 ey_29 => ?_)
    have ty_29 : y_29.toInt = i0.toInt + 4 := xI_add rfl rfl ey_29 (by omega) (by omega)
    refine va_sld hx hb hX hbl hbA hS (vin (by omega) (by omega)) dL_law_1069 ?_
    refine lv_topi (fun y_30 ey_30 => ?_)
    have u_31 : y_30.toInt = (xs (i0 + 4).toNatClampNeg).toInt := by rw [ey_30, ey_29]
    refine lv_aload_n hx hb dL_law_1070 rfl (lv_at hl 0 rfl) ?_
    refine lv_iload_n hx hb dL_law_1071 rfl (lv_at hl 3 rfl) ?_
    refine lv_iconst (v := 5) hx hb dL_law_1072 (by decide) ?_
    refine lv_iadd hx hb dL_law_1073 ?_
    refine lv_topi (fun y_32 ey_32 => ?_)
    have ty_32 : y_32.toInt = i0.toInt + 5 := xI_add rfl rfl ey_32 (by omega) (by omega)
    refine va_sld hx hb hX hbl hbA hS (vin (by omega) (by omega)) dL_law_1074 ?_
    refine lv_topi (fun y_33 ey_33 => ?_)
    have u_34 : y_33.toInt = (xs (i0 + 5).toNatClampNeg).toInt := by rw [ey_33, ey_32]
    have g_35 : gP G_17 = gP G := gP_fr (rs := [37, 38, 39, 40, 56, 57]) (fs := [(6, 3), (7, 1), (7, 2), (7, 3), (7, 4), (7, 5), (7, 6), (7, 7), (29, 6)]) (Fr.rf.call hq_18 (by decide) (by decide)) (by decide) (by decide)
    have g_36 : gW G_17 = gW G := gW_fr (rs := [37, 38, 39, 40, 56, 57]) (fs := [(6, 3), (7, 1), (7, 2), (7, 3), (7, 4), (7, 5), (7, 6), (7, 7), (29, 6)]) (Fr.rf.call hq_18 (by decide) (by decide)) (by decide) (by decide)
    have g_37 : gO G_17 = gO G := gO_fr (rs := [37, 38, 39, 40, 56, 57]) (fs := [(6, 3), (7, 1), (7, 2), (7, 3), (7, 4), (7, 5), (7, 6), (7, 7), (29, 6)]) (Fr.rf.call hq_18 (by decide) (by decide)) (by decide) (by decide)
    refine S_calll (va_runV (As := [.int y_21, .int y_24, .int y_27, .int y_30, .int y_33]) (rest := []) ⟨hx, hb, hml, hown, hts⟩ (n_brave l D k A a z G_17 y_21 y_24 y_27 y_30 y_33 (by omega) (by omega) (by omega)) (cwV 5 hts (gd_V hgd m1939 m1940 m1941 m131 m1942) rfl rfl rfl (by decide +kernel) ⟨Nat.le_of_ble_eq_true rfl, Nat.le_of_ble_eq_true rfl⟩) (pre_V hW hB_G_17 hK hZ hS kd_66 rfl) rfl rfl hl.1 rfl (lv_room (Nat.le_of_ble_eq_true rfl)) dL_law_1075 ⟨Nat.le_of_ble_eq_true rfl, Nat.le_of_ble_eq_true rfl⟩) hS (fun r_38 G_39 H locs hpo hW hS => ?_)
    obtain ⟨hB_G_39, hq_40, hp_41⟩ := hpo
    refine lv_pop2_2 hx hb dL_law_1078 rfl ?_
    refine lv_goto (tgt := 1642) hx hb dL_law_1079 (by decide) ?_
    have g_42 : gP G_39 = gP G := gP_fr (rs := [37, 38, 39, 40, 56, 57, 76, 97, 98, 106]) (fs := [(6, 3), (7, 1), (7, 2), (7, 3), (7, 4), (7, 5), (7, 6), (7, 7), (29, 6), (66, 59), (66, 60), (66, 61), (66, 62), (66, 63)]) ((Fr.rf.call hq_18 (by decide) (by decide)).call hq_40 (by decide) (by decide)) (by decide) (by decide)
    have g_43 : gS G_39 = gS G := gS_fr (rs := [37, 38, 39, 40, 56, 57, 76, 97, 98, 106]) (fs := [(6, 3), (7, 1), (7, 2), (7, 3), (7, 4), (7, 5), (7, 6), (7, 7), (29, 6), (66, 59), (66, 60), (66, 61), (66, 62), (66, 63)]) ((Fr.rf.call hq_18 (by decide) (by decide)).call hq_40 (by decide) (by decide)) (by decide) (by decide)
    have g_44 : gW G_39 = gW G := gW_fr (rs := [37, 38, 39, 40, 56, 57, 76, 97, 98, 106]) (fs := [(6, 3), (7, 1), (7, 2), (7, 3), (7, 4), (7, 5), (7, 6), (7, 7), (29, 6), (66, 59), (66, 60), (66, 61), (66, 62), (66, 63)]) ((Fr.rf.call hq_18 (by decide) (by decide)).call hq_40 (by decide) (by decide)) (by decide) (by decide)
    have b_45 : 0 ≤ (G.1 0 11).toInt ∧ (G.1 0 11).toInt ≤ 1600 := hB_G.i 0 11 rfl rfl
    have g_46 : (G_39.1 0 11).toInt = (G.1 0 11).toInt := by rw [show G_39.1 0 11 = (G.1 0 11) from ((hq_40.i 0 11 (by decide) (by decide)).trans (hq_18.i 0 11 (by decide) (by decide)))]
    have b_47 : 0 ≤ (G.1 30 4).toInt ∧ (G.1 30 4).toInt ≤ 40 := hB_G.i 30 4 rfl rfl
    have g_48 : (G_39.1 30 4).toInt = (G.1 30 4).toInt := by rw [show G_39.1 30 4 = (G.1 30 4) from ((hq_40.i 30 4 (by decide) (by decide)).trans (hq_18.i 30 4 (by decide) (by decide)))]
    have b_49 : 0 ≤ (G.1 30 5).toInt ∧ (G.1 30 5).toInt ≤ 40 := hB_G.i 30 5 rfl rfl
    have g_50 : (G_39.1 30 5).toInt = (G.1 30 5).toInt := by rw [show G_39.1 30 5 = (G.1 30 5) from ((hq_40.i 30 5 (by decide) (by decide)).trans (hq_18.i 30 5 (by decide) (by decide)))]
    have b_51 : 0 ≤ (G.1 31 6).toInt ∧ (G.1 31 6).toInt ≤ 100000 := hB_G.i 31 6 rfl rfl
    have g_52 : (G_39.1 31 6).toInt = (G.1 31 6).toInt := by rw [show G_39.1 31 6 = (G.1 31 6) from ((hq_40.i 31 6 (by decide) (by decide)).trans (hq_18.i 31 6 (by decide) (by decide)))]
    have b_53 : 0 ≤ (G.1 66 1).toInt ∧ (G.1 66 1).toInt ≤ 1600 := hB_G.i 66 1 rfl rfl
    have g_54 : (G_39.1 66 1).toInt = (G.1 66 1).toInt := by rw [show G_39.1 66 1 = (G.1 66 1) from ((hq_40.i 66 1 (by decide) (by decide)).trans (hq_18.i 66 1 (by decide) (by decide)))]
    have b_55 : 0 ≤ (G.1 66 78).toInt ∧ (G.1 66 78).toInt ≤ 40 := hB_G.i 66 78 rfl rfl
    have g_56 : (G_39.1 66 78).toInt = (G.1 66 78).toInt := by rw [show G_39.1 66 78 = (G.1 66 78) from ((hq_40.i 66 78 (by decide) (by decide)).trans (hq_18.i 66 78 (by decide) (by decide)))]
    have b_57 : 0 ≤ (G.1 66 79).toInt ∧ (G.1 66 79).toInt ≤ 40 := hB_G.i 66 79 rfl rfl
    have g_58 : (G_39.1 66 79).toInt = (G.1 66 79).toInt := by rw [show G_39.1 66 79 = (G.1 66 79) from ((hq_40.i 66 79 (by decide) (by decide)).trans (hq_18.i 66 79 (by decide) (by decide)))]
    have b_59 : 0 ≤ (G.1 66 86).toInt ∧ (G.1 66 86).toInt ≤ 100000 := hB_G.i 66 86 rfl rfl
    have g_60 : (G_39.1 66 86).toInt = (G.1 66 86).toInt := by rw [show G_39.1 66 86 = (G.1 66 86) from ((hq_40.i 66 86 (by decide) (by decide)).trans (hq_18.i 66 86 (by decide) (by decide)))]
    have b_61 : 0 ≤ (G.1 96 0).toInt ∧ (G.1 96 0).toInt ≤ 9 := hB_G.i 96 0 rfl rfl
    have g_62 : (G_39.1 96 0).toInt = (G.1 96 0).toInt := by rw [show G_39.1 96 0 = (G.1 96 0) from ((hq_40.i 96 0 (by decide) (by decide)).trans (hq_18.i 96 0 (by decide) (by decide)))]
    have b_63 : 0 ≤ (G.1 96 1).toInt ∧ (G.1 96 1).toInt ≤ 9 := hB_G.i 96 1 rfl rfl
    have g_64 : (G_39.1 96 1).toInt = (G.1 96 1).toInt := by rw [show G_39.1 96 1 = (G.1 96 1) from ((hq_40.i 96 1 (by decide) (by decide)).trans (hq_18.i 96 1 (by decide) (by decide)))]
    have b_65 : 0 ≤ (G.1 96 2).toInt ∧ (G.1 96 2).toInt ≤ 9 := hB_G.i 96 2 rfl rfl
    have g_66 : (G_39.1 96 2).toInt = (G.1 96 2).toInt := by rw [show G_39.1 96 2 = (G.1 96 2) from ((hq_40.i 96 2 (by decide) (by decide)).trans (hq_18.i 96 2 (by decide) (by decide)))]
    exact K G_39 _ _ _ (Or.inr ⟨((((hq_40.r 0 0 (by decide) (by decide)).trans (hq_18.r 0 0 (by decide) (by decide)))).trans (hv_0_0)), ((((hq_40.r 0 1 (by decide) (by decide)).trans (hq_18.r 0 1 (by decide) (by decide)))).trans (hv_0_1)), ((((hq_40.r 6 4 (by decide) (by decide)).trans (hq_18.r 6 4 (by decide) (by decide)))).trans (hv_6_4)), by omega, by omega, by omega, by omega, by omega, by omega, by omega, by omega, by omega⟩) hB_G_39 hW hS (lv_sub hl [0, 1, 2, 3] rfl)

set_option maxHeartbeats 4000000 in
set_option maxRecDepth 100000 in
theorem law_19 {p : Program} {l : Launch} {e : Env} {s : State} {m : MethodId} {below : List Frame} {meth : Method} {c : Code} {D : va_G} {k : KT} {A : Nat → Prop} {a : Nat → Nat} {z : SK} {b L : Nat} {xs : Nat → Int32} (hL : L ≤ 3072) (C0 : lw_At p s m meth c b L xs) (hK : cK D k s) (hZ : Sx A z s) (hbA : ¬ A b) (hA : ∀ q : Nat, s.heap.size ≤ q → A q) {G : GS} {i0 : Int32} (hi0 : 0 ≤ i0.toInt) (hi6 : i0.toInt + 6 ≤ L) (hI : LI G) (hB_G : Bd G) {H : Heap} {locs : List Loc} {ls : Array Slot} (hW : Wd D k A a G H) (hS : va_S A s.heap H locs) (hl : lv_has ls 4 [(0, .ref b), (1, .ref (a 0)), (2, .ref (a 66)), (3, .int i0)]) (K : ∀ (G1 : GS) (H1 : Heap) (locs1 : List Loc) (ls1 : Array Slot), LI G1 → Bd G1 → Wd D k A a G1 H1 → va_S A s.heap H1 locs1 → lv_has ls1 4 [(0, .ref b), (1, .ref (a 0)), (2, .ref (a 66)), (3, .int i0)] → W p l e room_1 s m #[Value.ref b] below meth c H1 locs1 119 46443 (lw_Z below #[Value.ref b] s) (F0 m 1642 ls1 [])) : W p l e room_1 s m #[Value.ref b] below meth c H locs 119 46443 (lw_Z below #[Value.ref b] s) (F0 m 1082 ls []) := by
  obtain ⟨hx, hb, hr, hml, hown, hts, hX, hbl, hlocks, hgv⟩ := id C0
  have hown : s.vm.findClass RL = some m.cls := hown
  have hgd : ∀ w ∈ gd, w ∈ lw_tbl := fun w h => (List.mem_filter.mp h).1
  have hg : ∀ w ∈ gd, w.before #[Value.ref b] s = true := fun w h => hts w (hgd w h)
  rcases hI with ⟨hv_0_0, hv_0_1, hv_6_4, hj0, hj1, hj2, hj3, hj4, hj5, hj6, hj7, hj8⟩ | ⟨hv_0_0, hv_0_1, hv_6_4, hj0, hj1, hj2, hj3, hj4, hj5, hj6, hj7, hj8⟩
  · skip
    refine lv_aload_n hx hb dL_law_1082 rfl (lv_at hl 1 rfl) ?_
    refine lv_aload_n hx hb dL_law_1083 rfl (lv_at hl 0 rfl) ?_
    refine lv_iload_n hx hb dL_law_1084 rfl (lv_at hl 3 rfl) ?_
    refine lv_iconst (v := 1) hx hb dL_law_1085 (by decide) ?_
    refine lv_iadd hx hb dL_law_1086 ?_
    refine lv_topi (fun y_1 ey_1 => ?_)
    have ty_1 : y_1.toInt = i0.toInt + 1 := xI_add rfl rfl ey_1 (by omega) (by omega)
    refine va_sld hx hb hX hbl hbA hS (vin (by omega) (by omega)) dL_law_1087 ?_
    refine lv_topi (fun y_2 ey_2 => ?_)
    have u_3 : y_2.toInt = (xs (i0 + 1).toNatClampNeg).toInt := by rw [ey_2, ey_1]
    refine lv_aload_n hx hb dL_law_1088 rfl (lv_at hl 0 rfl) ?_
    refine lv_iload_n hx hb dL_law_1089 rfl (lv_at hl 3 rfl) ?_
    refine lv_iconst (v := 2) hx hb dL_law_1090 (by decide) ?_
    refine lv_iadd hx hb dL_law_1091 ?_
    refine lv_topi (fun y_4 ey_4 => ?_)
    have ty_4 : y_4.toInt = i0.toInt + 2 := xI_add rfl rfl ey_4 (by omega) (by omega)
    refine va_sld hx hb hX hbl hbA hS (vin (by omega) (by omega)) dL_law_1092 ?_
    refine lv_topi (fun y_5 ey_5 => ?_)
    have u_6 : y_5.toInt = (xs (i0 + 2).toNatClampNeg).toInt := by rw [ey_5, ey_4]
    refine lv_aload_n hx hb dL_law_1093 rfl (lv_at hl 0 rfl) ?_
    refine lv_iload_n hx hb dL_law_1094 rfl (lv_at hl 3 rfl) ?_
    refine lv_iconst (v := 3) hx hb dL_law_1095 (by decide) ?_
    refine lv_iadd hx hb dL_law_1096 ?_
    refine lv_topi (fun y_7 ey_7 => ?_)
    have ty_7 : y_7.toInt = i0.toInt + 3 := xI_add rfl rfl ey_7 (by omega) (by omega)
    refine va_sld hx hb hX hbl hbA hS (vin (by omega) (by omega)) dL_law_1097 ?_
    refine lv_topi (fun y_8 ey_8 => ?_)
    have u_9 : y_8.toInt = (xs (i0 + 3).toNatClampNeg).toInt := by rw [ey_8, ey_7]
    refine lv_aload_n hx hb dL_law_1098 rfl (lv_at hl 0 rfl) ?_
    refine lv_iload_n hx hb dL_law_1099 rfl (lv_at hl 3 rfl) ?_
    refine lv_iconst (v := 4) hx hb dL_law_1100 (by decide) ?_
    refine lv_iadd hx hb dL_law_1101 ?_
    refine lv_topi (fun y_10 ey_10 => ?_)
    have ty_10 : y_10.toInt = i0.toInt + 4 := xI_add rfl rfl ey_10 (by omega) (by omega)
    refine va_sld hx hb hX hbl hbA hS (vin (by omega) (by omega)) dL_law_1102 ?_
    refine lv_topi (fun y_11 ey_11 => ?_)
    have u_12 : y_11.toInt = (xs (i0 + 4).toNatClampNeg).toInt := by rw [ey_11, ey_10]
    refine lv_aload_n hx hb dL_law_1103 rfl (lv_at hl 0 rfl) ?_
    refine lv_iload_n hx hb dL_law_1104 rfl (lv_at hl 3 rfl) ?_
    refine lv_iconst (v := 5) hx hb dL_law_1105 (by decide) ?_
    refine lv_iadd hx hb dL_law_1106 ?_
    refine lv_topi (fun y_13 ey_13 => ?_)
    have ty_13 : y_13.toInt = i0.toInt + 5 := xI_add rfl rfl ey_13 (by omega) (by omega)
    refine va_sld hx hb hX hbl hbA hS (vin (by omega) (by omega)) dL_law_1107 ?_
    refine lv_topi (fun y_14 ey_14 => ?_)
    have u_15 : y_14.toInt = (xs (i0 + 5).toNatClampNeg).toInt := by rw [ey_14, ey_13]
    refine S_calli (va_runV (As := [.int y_2, .int y_5, .int y_8, .int y_11, .int y_14]) (rest := []) ⟨hx, hb, hml, hown, hts⟩ (k_Wboldest_1 l D k A a z G y_2 y_5 y_8 y_11 y_14 hv_0_0 hv_0_1 hv_6_4) (cwV 5 hts (gd_V hgd m1134 m1135 m1136 m117 m1137) rfl rfl rfl (by decide +kernel) ⟨Nat.le_of_ble_eq_true rfl, Nat.le_of_ble_eq_true rfl⟩) (pre_V hW hB_G hK hZ hS kd_0 rfl) rfl rfl hl.1 rfl (lv_room (Nat.le_of_ble_eq_true rfl)) dL_law_1108 ⟨Nat.le_of_ble_eq_true rfl, Nat.le_of_ble_eq_true rfl⟩) hS (fun r_16 G_17 H locs hpo hW hS => ?_)
    obtain ⟨hB_G_17, hq_18⟩ := hpo
    refine lv_pop hx hb dL_law_1111 rfl ?_
    refine lv_aload_n hx hb dL_law_1112 rfl (lv_at hl 2 rfl) ?_
    refine lv_aload_n hx hb dL_law_1113 rfl (lv_at hl 0 rfl) ?_
    refine lv_iload_n hx hb dL_law_1114 rfl (lv_at hl 3 rfl) ?_
    refine lv_iconst (v := 1) hx hb dL_law_1115 (by decide) ?_
    refine lv_iadd hx hb dL_law_1116 ?_
    refine lv_topi (fun y_20 ey_20 => ?_)
    have ty_20 : y_20.toInt = i0.toInt + 1 := xI_add rfl rfl ey_20 (by omega) (by omega)
    refine va_sld hx hb hX hbl hbA hS (vin (by omega) (by omega)) dL_law_1117 ?_
    refine lv_topi (fun y_21 ey_21 => ?_)
    have u_22 : y_21.toInt = (xs (i0 + 1).toNatClampNeg).toInt := by rw [ey_21, ey_20]
    refine lv_aload_n hx hb dL_law_1118 rfl (lv_at hl 0 rfl) ?_
    refine lv_iload_n hx hb dL_law_1119 rfl (lv_at hl 3 rfl) ?_
    refine lv_iconst (v := 2) hx hb dL_law_1120 (by decide) ?_
    refine lv_iadd hx hb dL_law_1121 ?_
    refine lv_topi (fun y_23 ey_23 => ?_)
    have ty_23 : y_23.toInt = i0.toInt + 2 := xI_add rfl rfl ey_23 (by omega) (by omega)
    refine va_sld hx hb hX hbl hbA hS (vin (by omega) (by omega)) dL_law_1122 ?_
    refine lv_topi (fun y_24 ey_24 => ?_)
    have u_25 : y_24.toInt = (xs (i0 + 2).toNatClampNeg).toInt := by rw [ey_24, ey_23]
    refine lv_aload_n hx hb dL_law_1123 rfl (lv_at hl 0 rfl) ?_
    refine lv_iload_n hx hb dL_law_1124 rfl (lv_at hl 3 rfl) ?_
    refine lv_iconst (v := 3) hx hb dL_law_1125 (by decide) ?_
    refine lv_iadd hx hb dL_law_1126 ?_
    refine lv_topi (fun y_26 ey_26 => ?_)
    have ty_26 : y_26.toInt = i0.toInt + 3 := xI_add rfl rfl ey_26 (by omega) (by omega)
    refine va_sld hx hb hX hbl hbA hS (vin (by omega) (by omega)) dL_law_1127 ?_
    refine lv_topi (fun y_27 ey_27 => ?_)
    have u_28 : y_27.toInt = (xs (i0 + 3).toNatClampNeg).toInt := by rw [ey_27, ey_26]
    refine lv_aload_n hx hb dL_law_1128 rfl (lv_at hl 0 rfl) ?_
    refine lv_iload_n hx hb dL_law_1129 rfl (lv_at hl 3 rfl) ?_
    refine lv_iconst (v := 4) hx hb dL_law_1130 (by decide) ?_
    refine lv_iadd hx hb dL_law_1131 ?_
    refine lv_topi (fun y_29 ey_29 => ?_)
    have ty_29 : y_29.toInt = i0.toInt + 4 := xI_add rfl rfl ey_29 (by omega) (by omega)
    refine va_sld hx hb hX hbl hbA hS (vin (by omega) (by omega)) dL_law_1132 ?_
    refine lv_topi (fun y_30 ey_30 => ?_)
    have u_31 : y_30.toInt = (xs (i0 + 4).toNatClampNeg).toInt := by rw [ey_30, ey_29]
    refine lv_aload_n hx hb dL_law_1133 rfl (lv_at hl 0 rfl) ?_
    refine lv_iload_n hx hb dL_law_1134 rfl (lv_at hl 3 rfl) ?_
    refine lv_iconst (v := 5) hx hb dL_law_1135 (by decide) ?_
    refine lv_iadd hx hb dL_law_1136 ?_
    refine lv_topi (fun y_32 ey_32 => ?_)
    have ty_32 : y_32.toInt = i0.toInt + 5 := xI_add rfl rfl ey_32 (by omega) (by omega)
    refine va_sld hx hb hX hbl hbA hS (vin (by omega) (by omega)) dL_law_1137 ?_
    refine lv_topi (fun y_33 ey_33 => ?_)
    have u_34 : y_33.toInt = (xs (i0 + 5).toNatClampNeg).toInt := by rw [ey_33, ey_32]
    have g_35 : gP G_17 = gP G := gP_fr (rs := [37, 38, 39, 40, 56, 57]) (fs := [(6, 3), (7, 1), (7, 2), (7, 3), (7, 4), (7, 5), (7, 6), (7, 7), (29, 6)]) (Fr.rf.call hq_18 (by decide) (by decide)) (by decide) (by decide)
    have g_36 : gW G_17 = gW G := gW_fr (rs := [37, 38, 39, 40, 56, 57]) (fs := [(6, 3), (7, 1), (7, 2), (7, 3), (7, 4), (7, 5), (7, 6), (7, 7), (29, 6)]) (Fr.rf.call hq_18 (by decide) (by decide)) (by decide) (by decide)
    have g_37 : gO G_17 = gO G := gO_fr (rs := [37, 38, 39, 40, 56, 57]) (fs := [(6, 3), (7, 1), (7, 2), (7, 3), (7, 4), (7, 5), (7, 6), (7, 7), (29, 6)]) (Fr.rf.call hq_18 (by decide) (by decide)) (by decide) (by decide)
    refine S_calli (va_runV (As := [.int y_21, .int y_24, .int y_27, .int y_30, .int y_33]) (rest := []) ⟨hx, hb, hml, hown, hts⟩ (n_boldest l D k A a z G_17 y_21 y_24 y_27 y_30 y_33 (by omega) (by omega) (by omega)) (cwV 5 hts (gd_V hgd m1963 m1964 m1965 m131 m1966) rfl rfl rfl (by decide +kernel) ⟨Nat.le_of_ble_eq_true rfl, Nat.le_of_ble_eq_true rfl⟩) (pre_V hW hB_G_17 hK hZ hS kd_66 rfl) rfl rfl hl.1 rfl (lv_room (Nat.le_of_ble_eq_true rfl)) dL_law_1138 ⟨Nat.le_of_ble_eq_true rfl, Nat.le_of_ble_eq_true rfl⟩) hS (fun r_38 G_39 H locs hpo hW hS => ?_)
    obtain ⟨hB_G_39, hq_40, hp_41⟩ := hpo
    refine lv_pop hx hb dL_law_1141 rfl ?_
    refine lv_goto (tgt := 1642) hx hb dL_law_1142 (by decide) ?_
    have g_42 : gP G_39 = gP G := gP_fr (rs := [37, 38, 39, 40, 56, 57, 76, 97, 98, 106]) (fs := [(6, 3), (7, 1), (7, 2), (7, 3), (7, 4), (7, 5), (7, 6), (7, 7), (29, 6), (66, 59), (66, 60), (66, 61), (66, 62), (66, 63)]) ((Fr.rf.call hq_18 (by decide) (by decide)).call hq_40 (by decide) (by decide)) (by decide) (by decide)
    have g_43 : gS G_39 = gS G := gS_fr (rs := [37, 38, 39, 40, 56, 57, 76, 97, 98, 106]) (fs := [(6, 3), (7, 1), (7, 2), (7, 3), (7, 4), (7, 5), (7, 6), (7, 7), (29, 6), (66, 59), (66, 60), (66, 61), (66, 62), (66, 63)]) ((Fr.rf.call hq_18 (by decide) (by decide)).call hq_40 (by decide) (by decide)) (by decide) (by decide)
    have g_44 : gW G_39 = gW G := gW_fr (rs := [37, 38, 39, 40, 56, 57, 76, 97, 98, 106]) (fs := [(6, 3), (7, 1), (7, 2), (7, 3), (7, 4), (7, 5), (7, 6), (7, 7), (29, 6), (66, 59), (66, 60), (66, 61), (66, 62), (66, 63)]) ((Fr.rf.call hq_18 (by decide) (by decide)).call hq_40 (by decide) (by decide)) (by decide) (by decide)
    have b_45 : 0 ≤ (G.1 0 11).toInt ∧ (G.1 0 11).toInt ≤ 1600 := hB_G.i 0 11 rfl rfl
    have g_46 : (G_39.1 0 11).toInt = (G.1 0 11).toInt := by rw [show G_39.1 0 11 = (G.1 0 11) from ((hq_40.i 0 11 (by decide) (by decide)).trans (hq_18.i 0 11 (by decide) (by decide)))]
    have b_47 : 0 ≤ (G.1 30 4).toInt ∧ (G.1 30 4).toInt ≤ 40 := hB_G.i 30 4 rfl rfl
    have g_48 : (G_39.1 30 4).toInt = (G.1 30 4).toInt := by rw [show G_39.1 30 4 = (G.1 30 4) from ((hq_40.i 30 4 (by decide) (by decide)).trans (hq_18.i 30 4 (by decide) (by decide)))]
    have b_49 : 0 ≤ (G.1 30 5).toInt ∧ (G.1 30 5).toInt ≤ 40 := hB_G.i 30 5 rfl rfl
    have g_50 : (G_39.1 30 5).toInt = (G.1 30 5).toInt := by rw [show G_39.1 30 5 = (G.1 30 5) from ((hq_40.i 30 5 (by decide) (by decide)).trans (hq_18.i 30 5 (by decide) (by decide)))]
    have b_51 : 0 ≤ (G.1 31 6).toInt ∧ (G.1 31 6).toInt ≤ 100000 := hB_G.i 31 6 rfl rfl
    have g_52 : (G_39.1 31 6).toInt = (G.1 31 6).toInt := by rw [show G_39.1 31 6 = (G.1 31 6) from ((hq_40.i 31 6 (by decide) (by decide)).trans (hq_18.i 31 6 (by decide) (by decide)))]
    have b_53 : 0 ≤ (G.1 66 1).toInt ∧ (G.1 66 1).toInt ≤ 1600 := hB_G.i 66 1 rfl rfl
    have g_54 : (G_39.1 66 1).toInt = (G.1 66 1).toInt := by rw [show G_39.1 66 1 = (G.1 66 1) from ((hq_40.i 66 1 (by decide) (by decide)).trans (hq_18.i 66 1 (by decide) (by decide)))]
    have b_55 : 0 ≤ (G.1 66 78).toInt ∧ (G.1 66 78).toInt ≤ 40 := hB_G.i 66 78 rfl rfl
    have g_56 : (G_39.1 66 78).toInt = (G.1 66 78).toInt := by rw [show G_39.1 66 78 = (G.1 66 78) from ((hq_40.i 66 78 (by decide) (by decide)).trans (hq_18.i 66 78 (by decide) (by decide)))]
    have b_57 : 0 ≤ (G.1 66 79).toInt ∧ (G.1 66 79).toInt ≤ 40 := hB_G.i 66 79 rfl rfl
    have g_58 : (G_39.1 66 79).toInt = (G.1 66 79).toInt := by rw [show G_39.1 66 79 = (G.1 66 79) from ((hq_40.i 66 79 (by decide) (by decide)).trans (hq_18.i 66 79 (by decide) (by decide)))]
    have b_59 : 0 ≤ (G.1 66 86).toInt ∧ (G.1 66 86).toInt ≤ 100000 := hB_G.i 66 86 rfl rfl
    have g_60 : (G_39.1 66 86).toInt = (G.1 66 86).toInt := by rw [show G_39.1 66 86 = (G.1 66 86) from ((hq_40.i 66 86 (by decide) (by decide)).trans (hq_18.i 66 86 (by decide) (by decide)))]
    have b_61 : 0 ≤ (G.1 96 0).toInt ∧ (G.1 96 0).toInt ≤ 9 := hB_G.i 96 0 rfl rfl
    have g_62 : (G_39.1 96 0).toInt = (G.1 96 0).toInt := by rw [show G_39.1 96 0 = (G.1 96 0) from ((hq_40.i 96 0 (by decide) (by decide)).trans (hq_18.i 96 0 (by decide) (by decide)))]
    have b_63 : 0 ≤ (G.1 96 1).toInt ∧ (G.1 96 1).toInt ≤ 9 := hB_G.i 96 1 rfl rfl
    have g_64 : (G_39.1 96 1).toInt = (G.1 96 1).toInt := by rw [show G_39.1 96 1 = (G.1 96 1) from ((hq_40.i 96 1 (by decide) (by decide)).trans (hq_18.i 96 1 (by decide) (by decide)))]
    have b_65 : 0 ≤ (G.1 96 2).toInt ∧ (G.1 96 2).toInt ≤ 9 := hB_G.i 96 2 rfl rfl
    have g_66 : (G_39.1 96 2).toInt = (G.1 96 2).toInt := by rw [show G_39.1 96 2 = (G.1 96 2) from ((hq_40.i 96 2 (by decide) (by decide)).trans (hq_18.i 96 2 (by decide) (by decide)))]
    exact K G_39 _ _ _ (Or.inl ⟨((((hq_40.r 0 0 (by decide) (by decide)).trans (hq_18.r 0 0 (by decide) (by decide)))).trans (hv_0_0)), ((((hq_40.r 0 1 (by decide) (by decide)).trans (hq_18.r 0 1 (by decide) (by decide)))).trans (hv_0_1)), ((((hq_40.r 6 4 (by decide) (by decide)).trans (hq_18.r 6 4 (by decide) (by decide)))).trans (hv_6_4)), by omega, by omega, by omega, by omega, by omega, by omega, by omega, by omega, by omega⟩) hB_G_39 hW hS (lv_sub hl [0, 1, 2, 3] rfl)
  · skip
    refine lv_aload_n hx hb dL_law_1082 rfl (lv_at hl 1 rfl) ?_
    refine lv_aload_n hx hb dL_law_1083 rfl (lv_at hl 0 rfl) ?_
    refine lv_iload_n hx hb dL_law_1084 rfl (lv_at hl 3 rfl) ?_
    refine lv_iconst (v := 1) hx hb dL_law_1085 (by decide) ?_
    refine lv_iadd hx hb dL_law_1086 ?_
    refine lv_topi (fun y_1 ey_1 => ?_)
    have ty_1 : y_1.toInt = i0.toInt + 1 := xI_add rfl rfl ey_1 (by omega) (by omega)
    refine va_sld hx hb hX hbl hbA hS (vin (by omega) (by omega)) dL_law_1087 ?_
    refine lv_topi (fun y_2 ey_2 => ?_)
    have u_3 : y_2.toInt = (xs (i0 + 1).toNatClampNeg).toInt := by rw [ey_2, ey_1]
    refine lv_aload_n hx hb dL_law_1088 rfl (lv_at hl 0 rfl) ?_
    refine lv_iload_n hx hb dL_law_1089 rfl (lv_at hl 3 rfl) ?_
    refine lv_iconst (v := 2) hx hb dL_law_1090 (by decide) ?_
    refine lv_iadd hx hb dL_law_1091 ?_
    refine lv_topi (fun y_4 ey_4 => ?_)
    have ty_4 : y_4.toInt = i0.toInt + 2 := xI_add rfl rfl ey_4 (by omega) (by omega)
    refine va_sld hx hb hX hbl hbA hS (vin (by omega) (by omega)) dL_law_1092 ?_
    refine lv_topi (fun y_5 ey_5 => ?_)
    have u_6 : y_5.toInt = (xs (i0 + 2).toNatClampNeg).toInt := by rw [ey_5, ey_4]
    refine lv_aload_n hx hb dL_law_1093 rfl (lv_at hl 0 rfl) ?_
    refine lv_iload_n hx hb dL_law_1094 rfl (lv_at hl 3 rfl) ?_
    refine lv_iconst (v := 3) hx hb dL_law_1095 (by decide) ?_
    refine lv_iadd hx hb dL_law_1096 ?_
    refine lv_topi (fun y_7 ey_7 => ?_)
    have ty_7 : y_7.toInt = i0.toInt + 3 := xI_add rfl rfl ey_7 (by omega) (by omega)
    refine va_sld hx hb hX hbl hbA hS (vin (by omega) (by omega)) dL_law_1097 ?_
    refine lv_topi (fun y_8 ey_8 => ?_)
    have u_9 : y_8.toInt = (xs (i0 + 3).toNatClampNeg).toInt := by rw [ey_8, ey_7]
    refine lv_aload_n hx hb dL_law_1098 rfl (lv_at hl 0 rfl) ?_
    refine lv_iload_n hx hb dL_law_1099 rfl (lv_at hl 3 rfl) ?_
    refine lv_iconst (v := 4) hx hb dL_law_1100 (by decide) ?_
    refine lv_iadd hx hb dL_law_1101 ?_
    refine lv_topi (fun y_10 ey_10 => ?_)
    have ty_10 : y_10.toInt = i0.toInt + 4 := xI_add rfl rfl ey_10 (by omega) (by omega)
    refine va_sld hx hb hX hbl hbA hS (vin (by omega) (by omega)) dL_law_1102 ?_
    refine lv_topi (fun y_11 ey_11 => ?_)
    have u_12 : y_11.toInt = (xs (i0 + 4).toNatClampNeg).toInt := by rw [ey_11, ey_10]
    refine lv_aload_n hx hb dL_law_1103 rfl (lv_at hl 0 rfl) ?_
    refine lv_iload_n hx hb dL_law_1104 rfl (lv_at hl 3 rfl) ?_
    refine lv_iconst (v := 5) hx hb dL_law_1105 (by decide) ?_
    refine lv_iadd hx hb dL_law_1106 ?_
    refine lv_topi (fun y_13 ey_13 => ?_)
    have ty_13 : y_13.toInt = i0.toInt + 5 := xI_add rfl rfl ey_13 (by omega) (by omega)
    refine va_sld hx hb hX hbl hbA hS (vin (by omega) (by omega)) dL_law_1107 ?_
    refine lv_topi (fun y_14 ey_14 => ?_)
    have u_15 : y_14.toInt = (xs (i0 + 5).toNatClampNeg).toInt := by rw [ey_14, ey_13]
    refine S_calli (va_runV (As := [.int y_2, .int y_5, .int y_8, .int y_11, .int y_14]) (rest := []) ⟨hx, hb, hml, hown, hts⟩ (k_Wboldest_2 l D k A a z G y_2 y_5 y_8 y_11 y_14 hv_0_0 hv_0_1 hv_6_4) (cwV 5 hts (gd_V hgd m1134 m1135 m1136 m117 m1137) rfl rfl rfl (by decide +kernel) ⟨Nat.le_of_ble_eq_true rfl, Nat.le_of_ble_eq_true rfl⟩) (pre_V hW hB_G hK hZ hS kd_0 rfl) rfl rfl hl.1 rfl (lv_room (Nat.le_of_ble_eq_true rfl)) dL_law_1108 ⟨Nat.le_of_ble_eq_true rfl, Nat.le_of_ble_eq_true rfl⟩) hS (fun r_16 G_17 H locs hpo hW hS => ?_)
    obtain ⟨hB_G_17, hq_18⟩ := hpo
    refine lv_pop hx hb dL_law_1111 rfl ?_
    refine lv_aload_n hx hb dL_law_1112 rfl (lv_at hl 2 rfl) ?_
    refine lv_aload_n hx hb dL_law_1113 rfl (lv_at hl 0 rfl) ?_
    refine lv_iload_n hx hb dL_law_1114 rfl (lv_at hl 3 rfl) ?_
    refine lv_iconst (v := 1) hx hb dL_law_1115 (by decide) ?_
    refine lv_iadd hx hb dL_law_1116 ?_
    refine lv_topi (fun y_20 ey_20 => ?_)
    have ty_20 : y_20.toInt = i0.toInt + 1 := xI_add rfl rfl ey_20 (by omega) (by omega)
    refine va_sld hx hb hX hbl hbA hS (vin (by omega) (by omega)) dL_law_1117 ?_
    refine lv_topi (fun y_21 ey_21 => ?_)
    have u_22 : y_21.toInt = (xs (i0 + 1).toNatClampNeg).toInt := by rw [ey_21, ey_20]
    refine lv_aload_n hx hb dL_law_1118 rfl (lv_at hl 0 rfl) ?_
    refine lv_iload_n hx hb dL_law_1119 rfl (lv_at hl 3 rfl) ?_
    refine lv_iconst (v := 2) hx hb dL_law_1120 (by decide) ?_
    refine lv_iadd hx hb dL_law_1121 ?_
    refine lv_topi (fun y_23 ey_23 => ?_)
    have ty_23 : y_23.toInt = i0.toInt + 2 := xI_add rfl rfl ey_23 (by omega) (by omega)
    refine va_sld hx hb hX hbl hbA hS (vin (by omega) (by omega)) dL_law_1122 ?_
    refine lv_topi (fun y_24 ey_24 => ?_)
    have u_25 : y_24.toInt = (xs (i0 + 2).toNatClampNeg).toInt := by rw [ey_24, ey_23]
    refine lv_aload_n hx hb dL_law_1123 rfl (lv_at hl 0 rfl) ?_
    refine lv_iload_n hx hb dL_law_1124 rfl (lv_at hl 3 rfl) ?_
    refine lv_iconst (v := 3) hx hb dL_law_1125 (by decide) ?_
    refine lv_iadd hx hb dL_law_1126 ?_
    refine lv_topi (fun y_26 ey_26 => ?_)
    have ty_26 : y_26.toInt = i0.toInt + 3 := xI_add rfl rfl ey_26 (by omega) (by omega)
    refine va_sld hx hb hX hbl hbA hS (vin (by omega) (by omega)) dL_law_1127 ?_
    refine lv_topi (fun y_27 ey_27 => ?_)
    have u_28 : y_27.toInt = (xs (i0 + 3).toNatClampNeg).toInt := by rw [ey_27, ey_26]
    refine lv_aload_n hx hb dL_law_1128 rfl (lv_at hl 0 rfl) ?_
    refine lv_iload_n hx hb dL_law_1129 rfl (lv_at hl 3 rfl) ?_
    refine lv_iconst (v := 4) hx hb dL_law_1130 (by decide) ?_
    refine lv_iadd hx hb dL_law_1131 ?_
    refine lv_topi (fun y_29 ey_29 => ?_)
    have ty_29 : y_29.toInt = i0.toInt + 4 := xI_add rfl rfl ey_29 (by omega) (by omega)
    refine va_sld hx hb hX hbl hbA hS (vin (by omega) (by omega)) dL_law_1132 ?_
    refine lv_topi (fun y_30 ey_30 => ?_)
    have u_31 : y_30.toInt = (xs (i0 + 4).toNatClampNeg).toInt := by rw [ey_30, ey_29]
    refine lv_aload_n hx hb dL_law_1133 rfl (lv_at hl 0 rfl) ?_
    refine lv_iload_n hx hb dL_law_1134 rfl (lv_at hl 3 rfl) ?_
    refine lv_iconst (v := 5) hx hb dL_law_1135 (by decide) ?_
    refine lv_iadd hx hb dL_law_1136 ?_
    refine lv_topi (fun y_32 ey_32 => ?_)
    have ty_32 : y_32.toInt = i0.toInt + 5 := xI_add rfl rfl ey_32 (by omega) (by omega)
    refine va_sld hx hb hX hbl hbA hS (vin (by omega) (by omega)) dL_law_1137 ?_
    refine lv_topi (fun y_33 ey_33 => ?_)
    have u_34 : y_33.toInt = (xs (i0 + 5).toNatClampNeg).toInt := by rw [ey_33, ey_32]
    have g_35 : gP G_17 = gP G := gP_fr (rs := [37, 38, 39, 40, 56, 57]) (fs := [(6, 3), (7, 1), (7, 2), (7, 3), (7, 4), (7, 5), (7, 6), (7, 7), (29, 6)]) (Fr.rf.call hq_18 (by decide) (by decide)) (by decide) (by decide)
    have g_36 : gW G_17 = gW G := gW_fr (rs := [37, 38, 39, 40, 56, 57]) (fs := [(6, 3), (7, 1), (7, 2), (7, 3), (7, 4), (7, 5), (7, 6), (7, 7), (29, 6)]) (Fr.rf.call hq_18 (by decide) (by decide)) (by decide) (by decide)
    have g_37 : gO G_17 = gO G := gO_fr (rs := [37, 38, 39, 40, 56, 57]) (fs := [(6, 3), (7, 1), (7, 2), (7, 3), (7, 4), (7, 5), (7, 6), (7, 7), (29, 6)]) (Fr.rf.call hq_18 (by decide) (by decide)) (by decide) (by decide)
    refine S_calli (va_runV (As := [.int y_21, .int y_24, .int y_27, .int y_30, .int y_33]) (rest := []) ⟨hx, hb, hml, hown, hts⟩ (n_boldest l D k A a z G_17 y_21 y_24 y_27 y_30 y_33 (by omega) (by omega) (by omega)) (cwV 5 hts (gd_V hgd m1963 m1964 m1965 m131 m1966) rfl rfl rfl (by decide +kernel) ⟨Nat.le_of_ble_eq_true rfl, Nat.le_of_ble_eq_true rfl⟩) (pre_V hW hB_G_17 hK hZ hS kd_66 rfl) rfl rfl hl.1 rfl (lv_room (Nat.le_of_ble_eq_true rfl)) dL_law_1138 ⟨Nat.le_of_ble_eq_true rfl, Nat.le_of_ble_eq_true rfl⟩) hS (fun r_38 G_39 H locs hpo hW hS => ?_)
    obtain ⟨hB_G_39, hq_40, hp_41⟩ := hpo
    refine lv_pop hx hb dL_law_1141 rfl ?_
    refine lv_goto (tgt := 1642) hx hb dL_law_1142 (by decide) ?_
    have g_42 : gP G_39 = gP G := gP_fr (rs := [37, 38, 39, 40, 56, 57, 76, 97, 98, 106]) (fs := [(6, 3), (7, 1), (7, 2), (7, 3), (7, 4), (7, 5), (7, 6), (7, 7), (29, 6), (66, 59), (66, 60), (66, 61), (66, 62), (66, 63)]) ((Fr.rf.call hq_18 (by decide) (by decide)).call hq_40 (by decide) (by decide)) (by decide) (by decide)
    have g_43 : gS G_39 = gS G := gS_fr (rs := [37, 38, 39, 40, 56, 57, 76, 97, 98, 106]) (fs := [(6, 3), (7, 1), (7, 2), (7, 3), (7, 4), (7, 5), (7, 6), (7, 7), (29, 6), (66, 59), (66, 60), (66, 61), (66, 62), (66, 63)]) ((Fr.rf.call hq_18 (by decide) (by decide)).call hq_40 (by decide) (by decide)) (by decide) (by decide)
    have g_44 : gW G_39 = gW G := gW_fr (rs := [37, 38, 39, 40, 56, 57, 76, 97, 98, 106]) (fs := [(6, 3), (7, 1), (7, 2), (7, 3), (7, 4), (7, 5), (7, 6), (7, 7), (29, 6), (66, 59), (66, 60), (66, 61), (66, 62), (66, 63)]) ((Fr.rf.call hq_18 (by decide) (by decide)).call hq_40 (by decide) (by decide)) (by decide) (by decide)
    have b_45 : 0 ≤ (G.1 0 11).toInt ∧ (G.1 0 11).toInt ≤ 1600 := hB_G.i 0 11 rfl rfl
    have g_46 : (G_39.1 0 11).toInt = (G.1 0 11).toInt := by rw [show G_39.1 0 11 = (G.1 0 11) from ((hq_40.i 0 11 (by decide) (by decide)).trans (hq_18.i 0 11 (by decide) (by decide)))]
    have b_47 : 0 ≤ (G.1 30 4).toInt ∧ (G.1 30 4).toInt ≤ 40 := hB_G.i 30 4 rfl rfl
    have g_48 : (G_39.1 30 4).toInt = (G.1 30 4).toInt := by rw [show G_39.1 30 4 = (G.1 30 4) from ((hq_40.i 30 4 (by decide) (by decide)).trans (hq_18.i 30 4 (by decide) (by decide)))]
    have b_49 : 0 ≤ (G.1 30 5).toInt ∧ (G.1 30 5).toInt ≤ 40 := hB_G.i 30 5 rfl rfl
    have g_50 : (G_39.1 30 5).toInt = (G.1 30 5).toInt := by rw [show G_39.1 30 5 = (G.1 30 5) from ((hq_40.i 30 5 (by decide) (by decide)).trans (hq_18.i 30 5 (by decide) (by decide)))]
    have b_51 : 0 ≤ (G.1 31 6).toInt ∧ (G.1 31 6).toInt ≤ 100000 := hB_G.i 31 6 rfl rfl
    have g_52 : (G_39.1 31 6).toInt = (G.1 31 6).toInt := by rw [show G_39.1 31 6 = (G.1 31 6) from ((hq_40.i 31 6 (by decide) (by decide)).trans (hq_18.i 31 6 (by decide) (by decide)))]
    have b_53 : 0 ≤ (G.1 66 1).toInt ∧ (G.1 66 1).toInt ≤ 1600 := hB_G.i 66 1 rfl rfl
    have g_54 : (G_39.1 66 1).toInt = (G.1 66 1).toInt := by rw [show G_39.1 66 1 = (G.1 66 1) from ((hq_40.i 66 1 (by decide) (by decide)).trans (hq_18.i 66 1 (by decide) (by decide)))]
    have b_55 : 0 ≤ (G.1 66 78).toInt ∧ (G.1 66 78).toInt ≤ 40 := hB_G.i 66 78 rfl rfl
    have g_56 : (G_39.1 66 78).toInt = (G.1 66 78).toInt := by rw [show G_39.1 66 78 = (G.1 66 78) from ((hq_40.i 66 78 (by decide) (by decide)).trans (hq_18.i 66 78 (by decide) (by decide)))]
    have b_57 : 0 ≤ (G.1 66 79).toInt ∧ (G.1 66 79).toInt ≤ 40 := hB_G.i 66 79 rfl rfl
    have g_58 : (G_39.1 66 79).toInt = (G.1 66 79).toInt := by rw [show G_39.1 66 79 = (G.1 66 79) from ((hq_40.i 66 79 (by decide) (by decide)).trans (hq_18.i 66 79 (by decide) (by decide)))]
    have b_59 : 0 ≤ (G.1 66 86).toInt ∧ (G.1 66 86).toInt ≤ 100000 := hB_G.i 66 86 rfl rfl
    have g_60 : (G_39.1 66 86).toInt = (G.1 66 86).toInt := by rw [show G_39.1 66 86 = (G.1 66 86) from ((hq_40.i 66 86 (by decide) (by decide)).trans (hq_18.i 66 86 (by decide) (by decide)))]
    have b_61 : 0 ≤ (G.1 96 0).toInt ∧ (G.1 96 0).toInt ≤ 9 := hB_G.i 96 0 rfl rfl
    have g_62 : (G_39.1 96 0).toInt = (G.1 96 0).toInt := by rw [show G_39.1 96 0 = (G.1 96 0) from ((hq_40.i 96 0 (by decide) (by decide)).trans (hq_18.i 96 0 (by decide) (by decide)))]
    have b_63 : 0 ≤ (G.1 96 1).toInt ∧ (G.1 96 1).toInt ≤ 9 := hB_G.i 96 1 rfl rfl
    have g_64 : (G_39.1 96 1).toInt = (G.1 96 1).toInt := by rw [show G_39.1 96 1 = (G.1 96 1) from ((hq_40.i 96 1 (by decide) (by decide)).trans (hq_18.i 96 1 (by decide) (by decide)))]
    have b_65 : 0 ≤ (G.1 96 2).toInt ∧ (G.1 96 2).toInt ≤ 9 := hB_G.i 96 2 rfl rfl
    have g_66 : (G_39.1 96 2).toInt = (G.1 96 2).toInt := by rw [show G_39.1 96 2 = (G.1 96 2) from ((hq_40.i 96 2 (by decide) (by decide)).trans (hq_18.i 96 2 (by decide) (by decide)))]
    exact K G_39 _ _ _ (Or.inr ⟨((((hq_40.r 0 0 (by decide) (by decide)).trans (hq_18.r 0 0 (by decide) (by decide)))).trans (hv_0_0)), ((((hq_40.r 0 1 (by decide) (by decide)).trans (hq_18.r 0 1 (by decide) (by decide)))).trans (hv_0_1)), ((((hq_40.r 6 4 (by decide) (by decide)).trans (hq_18.r 6 4 (by decide) (by decide)))).trans (hv_6_4)), by omega, by omega, by omega, by omega, by omega, by omega, by omega, by omega, by omega⟩) hB_G_39 hW hS (lv_sub hl [0, 1, 2, 3] rfl)

set_option maxHeartbeats 4000000 in
set_option maxRecDepth 100000 in
theorem law_20 {p : Program} {l : Launch} {e : Env} {s : State} {m : MethodId} {below : List Frame} {meth : Method} {c : Code} {D : va_G} {k : KT} {A : Nat → Prop} {a : Nat → Nat} {z : SK} {b L : Nat} {xs : Nat → Int32} (hL : L ≤ 3072) (C0 : lw_At p s m meth c b L xs) (hK : cK D k s) (hZ : Sx A z s) (hbA : ¬ A b) (hA : ∀ q : Nat, s.heap.size ≤ q → A q) {G : GS} {i0 : Int32} (hi0 : 0 ≤ i0.toInt) (hi6 : i0.toInt + 6 ≤ L) (hI : LI G) (hB_G : Bd G) {H : Heap} {locs : List Loc} {ls : Array Slot} (hW : Wd D k A a G H) (hS : va_S A s.heap H locs) (hl : lv_has ls 4 [(0, .ref b), (1, .ref (a 0)), (2, .ref (a 66)), (3, .int i0)]) (K : ∀ (G1 : GS) (H1 : Heap) (locs1 : List Loc) (ls1 : Array Slot), LI G1 → Bd G1 → Wd D k A a G1 H1 → va_S A s.heap H1 locs1 → lv_has ls1 4 [(0, .ref b), (1, .ref (a 0)), (2, .ref (a 66)), (3, .int i0)] → W p l e room_1 s m #[Value.ref b] below meth c H1 locs1 119 46443 (lw_Z below #[Value.ref b] s) (F0 m 1642 ls1 [])) : W p l e room_1 s m #[Value.ref b] below meth c H locs 119 46443 (lw_Z below #[Value.ref b] s) (F0 m 1145 ls []) := by
  obtain ⟨hx, hb, hr, hml, hown, hts, hX, hbl, hlocks, hgv⟩ := id C0
  have hown : s.vm.findClass RL = some m.cls := hown
  have hgd : ∀ w ∈ gd, w ∈ lw_tbl := fun w h => (List.mem_filter.mp h).1
  have hg : ∀ w ∈ gd, w.before #[Value.ref b] s = true := fun w h => hts w (hgd w h)
  rcases hI with ⟨hv_0_0, hv_0_1, hv_6_4, hj0, hj1, hj2, hj3, hj4, hj5, hj6, hj7, hj8⟩ | ⟨hv_0_0, hv_0_1, hv_6_4, hj0, hj1, hj2, hj3, hj4, hj5, hj6, hj7, hj8⟩
  · skip
    refine lv_aload_n hx hb dL_law_1145 rfl (lv_at hl 1 rfl) ?_
    refine lv_aload_n hx hb dL_law_1146 rfl (lv_at hl 0 rfl) ?_
    refine lv_iload_n hx hb dL_law_1147 rfl (lv_at hl 3 rfl) ?_
    refine lv_iconst (v := 1) hx hb dL_law_1148 (by decide) ?_
    refine lv_iadd hx hb dL_law_1149 ?_
    refine lv_topi (fun y_1 ey_1 => ?_)
    have ty_1 : y_1.toInt = i0.toInt + 1 := xI_add rfl rfl ey_1 (by omega) (by omega)
    refine va_sld hx hb hX hbl hbA hS (vin (by omega) (by omega)) dL_law_1150 ?_
    refine lv_topi (fun y_2 ey_2 => ?_)
    have u_3 : y_2.toInt = (xs (i0 + 1).toNatClampNeg).toInt := by rw [ey_2, ey_1]
    refine lv_aload_n hx hb dL_law_1151 rfl (lv_at hl 0 rfl) ?_
    refine lv_iload_n hx hb dL_law_1152 rfl (lv_at hl 3 rfl) ?_
    refine lv_iconst (v := 2) hx hb dL_law_1153 (by decide) ?_
    refine lv_iadd hx hb dL_law_1154 ?_
    refine lv_topi (fun y_4 ey_4 => ?_)
    have ty_4 : y_4.toInt = i0.toInt + 2 := xI_add rfl rfl ey_4 (by omega) (by omega)
    refine va_sld hx hb hX hbl hbA hS (vin (by omega) (by omega)) dL_law_1155 ?_
    refine lv_topi (fun y_5 ey_5 => ?_)
    have u_6 : y_5.toInt = (xs (i0 + 2).toNatClampNeg).toInt := by rw [ey_5, ey_4]
    refine lv_aload_n hx hb dL_law_1156 rfl (lv_at hl 0 rfl) ?_
    refine lv_iload_n hx hb dL_law_1157 rfl (lv_at hl 3 rfl) ?_
    refine lv_iconst (v := 3) hx hb dL_law_1158 (by decide) ?_
    refine lv_iadd hx hb dL_law_1159 ?_
    refine lv_topi (fun y_7 ey_7 => ?_)
    have ty_7 : y_7.toInt = i0.toInt + 3 := xI_add rfl rfl ey_7 (by omega) (by omega)
    refine va_sld hx hb hX hbl hbA hS (vin (by omega) (by omega)) dL_law_1160 ?_
    refine lv_topi (fun y_8 ey_8 => ?_)
    have u_9 : y_8.toInt = (xs (i0 + 3).toNatClampNeg).toInt := by rw [ey_8, ey_7]
    refine lv_aload_n hx hb dL_law_1161 rfl (lv_at hl 0 rfl) ?_
    refine lv_iload_n hx hb dL_law_1162 rfl (lv_at hl 3 rfl) ?_
    refine lv_iconst (v := 4) hx hb dL_law_1163 (by decide) ?_
    refine lv_iadd hx hb dL_law_1164 ?_
    refine lv_topi (fun y_10 ey_10 => ?_)
    have ty_10 : y_10.toInt = i0.toInt + 4 := xI_add rfl rfl ey_10 (by omega) (by omega)
    refine va_sld hx hb hX hbl hbA hS (vin (by omega) (by omega)) dL_law_1165 ?_
    refine lv_topi (fun y_11 ey_11 => ?_)
    have u_12 : y_11.toInt = (xs (i0 + 4).toNatClampNeg).toInt := by rw [ey_11, ey_10]
    refine S_calli (va_runV (As := [.int y_2, .int y_5, .int y_8, .int y_11]) (rest := []) ⟨hx, hb, hml, hown, hts⟩ (k_Wwager_1 l D k A a z G y_2 y_5 y_8 y_11 hv_0_0 hv_0_1 hv_6_4) (cwV 4 hts (gd_V hgd m1142 m1143 m1144 m117 m1145) rfl rfl rfl (by decide +kernel) ⟨Nat.le_of_ble_eq_true rfl, Nat.le_of_ble_eq_true rfl⟩) (pre_V hW hB_G hK hZ hS kd_0 rfl) rfl rfl hl.1 rfl (lv_room (Nat.le_of_ble_eq_true rfl)) dL_law_1166 ⟨Nat.le_of_ble_eq_true rfl, Nat.le_of_ble_eq_true rfl⟩) hS (fun r_13 G_14 H locs hpo hW hS => ?_)
    obtain ⟨hB_G_14, hq_15⟩ := hpo
    refine lv_pop hx hb dL_law_1169 rfl ?_
    refine lv_aload_n hx hb dL_law_1170 rfl (lv_at hl 2 rfl) ?_
    refine lv_aload_n hx hb dL_law_1171 rfl (lv_at hl 0 rfl) ?_
    refine lv_iload_n hx hb dL_law_1172 rfl (lv_at hl 3 rfl) ?_
    refine lv_iconst (v := 1) hx hb dL_law_1173 (by decide) ?_
    refine lv_iadd hx hb dL_law_1174 ?_
    refine lv_topi (fun y_17 ey_17 => ?_)
    have ty_17 : y_17.toInt = i0.toInt + 1 := xI_add rfl rfl ey_17 (by omega) (by omega)
    refine va_sld hx hb hX hbl hbA hS (vin (by omega) (by omega)) dL_law_1175 ?_
    refine lv_topi (fun y_18 ey_18 => ?_)
    have u_19 : y_18.toInt = (xs (i0 + 1).toNatClampNeg).toInt := by rw [ey_18, ey_17]
    refine lv_aload_n hx hb dL_law_1176 rfl (lv_at hl 0 rfl) ?_
    refine lv_iload_n hx hb dL_law_1177 rfl (lv_at hl 3 rfl) ?_
    refine lv_iconst (v := 2) hx hb dL_law_1178 (by decide) ?_
    refine lv_iadd hx hb dL_law_1179 ?_
    refine lv_topi (fun y_20 ey_20 => ?_)
    have ty_20 : y_20.toInt = i0.toInt + 2 := xI_add rfl rfl ey_20 (by omega) (by omega)
    refine va_sld hx hb hX hbl hbA hS (vin (by omega) (by omega)) dL_law_1180 ?_
    refine lv_topi (fun y_21 ey_21 => ?_)
    have u_22 : y_21.toInt = (xs (i0 + 2).toNatClampNeg).toInt := by rw [ey_21, ey_20]
    refine lv_aload_n hx hb dL_law_1181 rfl (lv_at hl 0 rfl) ?_
    refine lv_iload_n hx hb dL_law_1182 rfl (lv_at hl 3 rfl) ?_
    refine lv_iconst (v := 3) hx hb dL_law_1183 (by decide) ?_
    refine lv_iadd hx hb dL_law_1184 ?_
    refine lv_topi (fun y_23 ey_23 => ?_)
    have ty_23 : y_23.toInt = i0.toInt + 3 := xI_add rfl rfl ey_23 (by omega) (by omega)
    refine va_sld hx hb hX hbl hbA hS (vin (by omega) (by omega)) dL_law_1185 ?_
    refine lv_topi (fun y_24 ey_24 => ?_)
    have u_25 : y_24.toInt = (xs (i0 + 3).toNatClampNeg).toInt := by rw [ey_24, ey_23]
    refine lv_aload_n hx hb dL_law_1186 rfl (lv_at hl 0 rfl) ?_
    refine lv_iload_n hx hb dL_law_1187 rfl (lv_at hl 3 rfl) ?_
    refine lv_iconst (v := 4) hx hb dL_law_1188 (by decide) ?_
    refine lv_iadd hx hb dL_law_1189 ?_
    refine lv_topi (fun y_26 ey_26 => ?_)
    have ty_26 : y_26.toInt = i0.toInt + 4 := xI_add rfl rfl ey_26 (by omega) (by omega)
    refine va_sld hx hb hX hbl hbA hS (vin (by omega) (by omega)) dL_law_1190 ?_
    refine lv_topi (fun y_27 ey_27 => ?_)
    have u_28 : y_27.toInt = (xs (i0 + 4).toNatClampNeg).toInt := by rw [ey_27, ey_26]
    have g_29 : gP G_14 = gP G := gP_fr (rs := [37, 38, 39, 40, 42, 43, 46, 47]) (fs := [(6, 3), (7, 1), (7, 2), (7, 3), (7, 4), (7, 5), (7, 6), (7, 7)]) (Fr.rf.call hq_15 (by decide) (by decide)) (by decide) (by decide)
    have g_30 : gW G_14 = gW G := gW_fr (rs := [37, 38, 39, 40, 42, 43, 46, 47]) (fs := [(6, 3), (7, 1), (7, 2), (7, 3), (7, 4), (7, 5), (7, 6), (7, 7)]) (Fr.rf.call hq_15 (by decide) (by decide)) (by decide) (by decide)
    refine S_calli (va_runV (As := [.int y_18, .int y_21, .int y_24, .int y_27]) (rest := []) ⟨hx, hb, hml, hown, hts⟩ (n_wager l D k A a z G_14 y_18 y_21 y_24 y_27 (by omega) (by omega)) (cwV 4 hts (gd_V hgd m1967 m1968 m1969 m131 m1970) rfl rfl rfl (by decide +kernel) ⟨Nat.le_of_ble_eq_true rfl, Nat.le_of_ble_eq_true rfl⟩) (pre_V hW hB_G_14 hK hZ hS kd_66 rfl) rfl rfl hl.1 rfl (lv_room (Nat.le_of_ble_eq_true rfl)) dL_law_1191 ⟨Nat.le_of_ble_eq_true rfl, Nat.le_of_ble_eq_true rfl⟩) hS (fun r_31 G_32 H locs hpo hW hS => ?_)
    obtain ⟨hB_G_32, hq_33⟩ := hpo
    refine lv_pop hx hb dL_law_1194 rfl ?_
    refine lv_goto (tgt := 1642) hx hb dL_law_1195 (by decide) ?_
    have g_35 : gO G_32 = gO G := gO_fr (rs := [37, 38, 39, 40, 42, 43, 46, 47, 76, 97, 98, 99, 107, 108, 109]) (fs := [(6, 3), (7, 1), (7, 2), (7, 3), (7, 4), (7, 5), (7, 6), (7, 7), (66, 59), (66, 60), (66, 61), (66, 62), (66, 63)]) ((Fr.rf.call hq_15 (by decide) (by decide)).call hq_33 (by decide) (by decide)) (by decide) (by decide)
    have g_36 : gP G_32 = gP G := gP_fr (rs := [37, 38, 39, 40, 42, 43, 46, 47, 76, 97, 98, 99, 107, 108, 109]) (fs := [(6, 3), (7, 1), (7, 2), (7, 3), (7, 4), (7, 5), (7, 6), (7, 7), (66, 59), (66, 60), (66, 61), (66, 62), (66, 63)]) ((Fr.rf.call hq_15 (by decide) (by decide)).call hq_33 (by decide) (by decide)) (by decide) (by decide)
    have g_37 : gS G_32 = gS G := gS_fr (rs := [37, 38, 39, 40, 42, 43, 46, 47, 76, 97, 98, 99, 107, 108, 109]) (fs := [(6, 3), (7, 1), (7, 2), (7, 3), (7, 4), (7, 5), (7, 6), (7, 7), (66, 59), (66, 60), (66, 61), (66, 62), (66, 63)]) ((Fr.rf.call hq_15 (by decide) (by decide)).call hq_33 (by decide) (by decide)) (by decide) (by decide)
    have g_38 : gW G_32 = gW G := gW_fr (rs := [37, 38, 39, 40, 42, 43, 46, 47, 76, 97, 98, 99, 107, 108, 109]) (fs := [(6, 3), (7, 1), (7, 2), (7, 3), (7, 4), (7, 5), (7, 6), (7, 7), (66, 59), (66, 60), (66, 61), (66, 62), (66, 63)]) ((Fr.rf.call hq_15 (by decide) (by decide)).call hq_33 (by decide) (by decide)) (by decide) (by decide)
    have b_39 : 0 ≤ (G.1 0 11).toInt ∧ (G.1 0 11).toInt ≤ 1600 := hB_G.i 0 11 rfl rfl
    have g_40 : (G_32.1 0 11).toInt = (G.1 0 11).toInt := by rw [show G_32.1 0 11 = (G.1 0 11) from ((hq_33.i 0 11 (by decide) (by decide)).trans (hq_15.i 0 11 (by decide) (by decide)))]
    have b_41 : 0 ≤ (G.1 30 4).toInt ∧ (G.1 30 4).toInt ≤ 40 := hB_G.i 30 4 rfl rfl
    have g_42 : (G_32.1 30 4).toInt = (G.1 30 4).toInt := by rw [show G_32.1 30 4 = (G.1 30 4) from ((hq_33.i 30 4 (by decide) (by decide)).trans (hq_15.i 30 4 (by decide) (by decide)))]
    have b_43 : 0 ≤ (G.1 30 5).toInt ∧ (G.1 30 5).toInt ≤ 40 := hB_G.i 30 5 rfl rfl
    have g_44 : (G_32.1 30 5).toInt = (G.1 30 5).toInt := by rw [show G_32.1 30 5 = (G.1 30 5) from ((hq_33.i 30 5 (by decide) (by decide)).trans (hq_15.i 30 5 (by decide) (by decide)))]
    have b_45 : 0 ≤ (G.1 31 6).toInt ∧ (G.1 31 6).toInt ≤ 100000 := hB_G.i 31 6 rfl rfl
    have g_46 : (G_32.1 31 6).toInt = (G.1 31 6).toInt := by rw [show G_32.1 31 6 = (G.1 31 6) from ((hq_33.i 31 6 (by decide) (by decide)).trans (hq_15.i 31 6 (by decide) (by decide)))]
    have b_47 : 0 ≤ (G.1 66 1).toInt ∧ (G.1 66 1).toInt ≤ 1600 := hB_G.i 66 1 rfl rfl
    have g_48 : (G_32.1 66 1).toInt = (G.1 66 1).toInt := by rw [show G_32.1 66 1 = (G.1 66 1) from ((hq_33.i 66 1 (by decide) (by decide)).trans (hq_15.i 66 1 (by decide) (by decide)))]
    have b_49 : 0 ≤ (G.1 66 78).toInt ∧ (G.1 66 78).toInt ≤ 40 := hB_G.i 66 78 rfl rfl
    have g_50 : (G_32.1 66 78).toInt = (G.1 66 78).toInt := by rw [show G_32.1 66 78 = (G.1 66 78) from ((hq_33.i 66 78 (by decide) (by decide)).trans (hq_15.i 66 78 (by decide) (by decide)))]
    have b_51 : 0 ≤ (G.1 66 79).toInt ∧ (G.1 66 79).toInt ≤ 40 := hB_G.i 66 79 rfl rfl
    have g_52 : (G_32.1 66 79).toInt = (G.1 66 79).toInt := by rw [show G_32.1 66 79 = (G.1 66 79) from ((hq_33.i 66 79 (by decide) (by decide)).trans (hq_15.i 66 79 (by decide) (by decide)))]
    have b_53 : 0 ≤ (G.1 66 86).toInt ∧ (G.1 66 86).toInt ≤ 100000 := hB_G.i 66 86 rfl rfl
    have g_54 : (G_32.1 66 86).toInt = (G.1 66 86).toInt := by rw [show G_32.1 66 86 = (G.1 66 86) from ((hq_33.i 66 86 (by decide) (by decide)).trans (hq_15.i 66 86 (by decide) (by decide)))]
    have b_55 : 0 ≤ (G.1 96 0).toInt ∧ (G.1 96 0).toInt ≤ 9 := hB_G.i 96 0 rfl rfl
    have g_56 : (G_32.1 96 0).toInt = (G.1 96 0).toInt := by rw [show G_32.1 96 0 = (G.1 96 0) from ((hq_33.i 96 0 (by decide) (by decide)).trans (hq_15.i 96 0 (by decide) (by decide)))]
    have b_57 : 0 ≤ (G.1 96 1).toInt ∧ (G.1 96 1).toInt ≤ 9 := hB_G.i 96 1 rfl rfl
    have g_58 : (G_32.1 96 1).toInt = (G.1 96 1).toInt := by rw [show G_32.1 96 1 = (G.1 96 1) from ((hq_33.i 96 1 (by decide) (by decide)).trans (hq_15.i 96 1 (by decide) (by decide)))]
    have b_59 : 0 ≤ (G.1 96 2).toInt ∧ (G.1 96 2).toInt ≤ 9 := hB_G.i 96 2 rfl rfl
    have g_60 : (G_32.1 96 2).toInt = (G.1 96 2).toInt := by rw [show G_32.1 96 2 = (G.1 96 2) from ((hq_33.i 96 2 (by decide) (by decide)).trans (hq_15.i 96 2 (by decide) (by decide)))]
    exact K G_32 _ _ _ (Or.inl ⟨((((hq_33.r 0 0 (by decide) (by decide)).trans (hq_15.r 0 0 (by decide) (by decide)))).trans (hv_0_0)), ((((hq_33.r 0 1 (by decide) (by decide)).trans (hq_15.r 0 1 (by decide) (by decide)))).trans (hv_0_1)), ((((hq_33.r 6 4 (by decide) (by decide)).trans (hq_15.r 6 4 (by decide) (by decide)))).trans (hv_6_4)), by omega, by omega, by omega, by omega, by omega, by omega, by omega, by omega, by omega⟩) hB_G_32 hW hS (lv_sub hl [0, 1, 2, 3] rfl)
  · skip
    refine lv_aload_n hx hb dL_law_1145 rfl (lv_at hl 1 rfl) ?_
    refine lv_aload_n hx hb dL_law_1146 rfl (lv_at hl 0 rfl) ?_
    refine lv_iload_n hx hb dL_law_1147 rfl (lv_at hl 3 rfl) ?_
    refine lv_iconst (v := 1) hx hb dL_law_1148 (by decide) ?_
    refine lv_iadd hx hb dL_law_1149 ?_
    refine lv_topi (fun y_1 ey_1 => ?_)
    have ty_1 : y_1.toInt = i0.toInt + 1 := xI_add rfl rfl ey_1 (by omega) (by omega)
    refine va_sld hx hb hX hbl hbA hS (vin (by omega) (by omega)) dL_law_1150 ?_
    refine lv_topi (fun y_2 ey_2 => ?_)
    have u_3 : y_2.toInt = (xs (i0 + 1).toNatClampNeg).toInt := by rw [ey_2, ey_1]
    refine lv_aload_n hx hb dL_law_1151 rfl (lv_at hl 0 rfl) ?_
    refine lv_iload_n hx hb dL_law_1152 rfl (lv_at hl 3 rfl) ?_
    refine lv_iconst (v := 2) hx hb dL_law_1153 (by decide) ?_
    refine lv_iadd hx hb dL_law_1154 ?_
    refine lv_topi (fun y_4 ey_4 => ?_)
    have ty_4 : y_4.toInt = i0.toInt + 2 := xI_add rfl rfl ey_4 (by omega) (by omega)
    refine va_sld hx hb hX hbl hbA hS (vin (by omega) (by omega)) dL_law_1155 ?_
    refine lv_topi (fun y_5 ey_5 => ?_)
    have u_6 : y_5.toInt = (xs (i0 + 2).toNatClampNeg).toInt := by rw [ey_5, ey_4]
    refine lv_aload_n hx hb dL_law_1156 rfl (lv_at hl 0 rfl) ?_
    refine lv_iload_n hx hb dL_law_1157 rfl (lv_at hl 3 rfl) ?_
    refine lv_iconst (v := 3) hx hb dL_law_1158 (by decide) ?_
    refine lv_iadd hx hb dL_law_1159 ?_
    refine lv_topi (fun y_7 ey_7 => ?_)
    have ty_7 : y_7.toInt = i0.toInt + 3 := xI_add rfl rfl ey_7 (by omega) (by omega)
    refine va_sld hx hb hX hbl hbA hS (vin (by omega) (by omega)) dL_law_1160 ?_
    refine lv_topi (fun y_8 ey_8 => ?_)
    have u_9 : y_8.toInt = (xs (i0 + 3).toNatClampNeg).toInt := by rw [ey_8, ey_7]
    refine lv_aload_n hx hb dL_law_1161 rfl (lv_at hl 0 rfl) ?_
    refine lv_iload_n hx hb dL_law_1162 rfl (lv_at hl 3 rfl) ?_
    refine lv_iconst (v := 4) hx hb dL_law_1163 (by decide) ?_
    refine lv_iadd hx hb dL_law_1164 ?_
    refine lv_topi (fun y_10 ey_10 => ?_)
    have ty_10 : y_10.toInt = i0.toInt + 4 := xI_add rfl rfl ey_10 (by omega) (by omega)
    refine va_sld hx hb hX hbl hbA hS (vin (by omega) (by omega)) dL_law_1165 ?_
    refine lv_topi (fun y_11 ey_11 => ?_)
    have u_12 : y_11.toInt = (xs (i0 + 4).toNatClampNeg).toInt := by rw [ey_11, ey_10]
    refine S_calli (va_runV (As := [.int y_2, .int y_5, .int y_8, .int y_11]) (rest := []) ⟨hx, hb, hml, hown, hts⟩ (k_Wwager_2 l D k A a z G y_2 y_5 y_8 y_11 hv_0_0 hv_0_1 hv_6_4) (cwV 4 hts (gd_V hgd m1142 m1143 m1144 m117 m1145) rfl rfl rfl (by decide +kernel) ⟨Nat.le_of_ble_eq_true rfl, Nat.le_of_ble_eq_true rfl⟩) (pre_V hW hB_G hK hZ hS kd_0 rfl) rfl rfl hl.1 rfl (lv_room (Nat.le_of_ble_eq_true rfl)) dL_law_1166 ⟨Nat.le_of_ble_eq_true rfl, Nat.le_of_ble_eq_true rfl⟩) hS (fun r_13 G_14 H locs hpo hW hS => ?_)
    obtain ⟨hB_G_14, hq_15⟩ := hpo
    refine lv_pop hx hb dL_law_1169 rfl ?_
    refine lv_aload_n hx hb dL_law_1170 rfl (lv_at hl 2 rfl) ?_
    refine lv_aload_n hx hb dL_law_1171 rfl (lv_at hl 0 rfl) ?_
    refine lv_iload_n hx hb dL_law_1172 rfl (lv_at hl 3 rfl) ?_
    refine lv_iconst (v := 1) hx hb dL_law_1173 (by decide) ?_
    refine lv_iadd hx hb dL_law_1174 ?_
    refine lv_topi (fun y_17 ey_17 => ?_)
    have ty_17 : y_17.toInt = i0.toInt + 1 := xI_add rfl rfl ey_17 (by omega) (by omega)
    refine va_sld hx hb hX hbl hbA hS (vin (by omega) (by omega)) dL_law_1175 ?_
    refine lv_topi (fun y_18 ey_18 => ?_)
    have u_19 : y_18.toInt = (xs (i0 + 1).toNatClampNeg).toInt := by rw [ey_18, ey_17]
    refine lv_aload_n hx hb dL_law_1176 rfl (lv_at hl 0 rfl) ?_
    refine lv_iload_n hx hb dL_law_1177 rfl (lv_at hl 3 rfl) ?_
    refine lv_iconst (v := 2) hx hb dL_law_1178 (by decide) ?_
    refine lv_iadd hx hb dL_law_1179 ?_
    refine lv_topi (fun y_20 ey_20 => ?_)
    have ty_20 : y_20.toInt = i0.toInt + 2 := xI_add rfl rfl ey_20 (by omega) (by omega)
    refine va_sld hx hb hX hbl hbA hS (vin (by omega) (by omega)) dL_law_1180 ?_
    refine lv_topi (fun y_21 ey_21 => ?_)
    have u_22 : y_21.toInt = (xs (i0 + 2).toNatClampNeg).toInt := by rw [ey_21, ey_20]
    refine lv_aload_n hx hb dL_law_1181 rfl (lv_at hl 0 rfl) ?_
    refine lv_iload_n hx hb dL_law_1182 rfl (lv_at hl 3 rfl) ?_
    refine lv_iconst (v := 3) hx hb dL_law_1183 (by decide) ?_
    refine lv_iadd hx hb dL_law_1184 ?_
    refine lv_topi (fun y_23 ey_23 => ?_)
    have ty_23 : y_23.toInt = i0.toInt + 3 := xI_add rfl rfl ey_23 (by omega) (by omega)
    refine va_sld hx hb hX hbl hbA hS (vin (by omega) (by omega)) dL_law_1185 ?_
    refine lv_topi (fun y_24 ey_24 => ?_)
    have u_25 : y_24.toInt = (xs (i0 + 3).toNatClampNeg).toInt := by rw [ey_24, ey_23]
    refine lv_aload_n hx hb dL_law_1186 rfl (lv_at hl 0 rfl) ?_
    refine lv_iload_n hx hb dL_law_1187 rfl (lv_at hl 3 rfl) ?_
    refine lv_iconst (v := 4) hx hb dL_law_1188 (by decide) ?_
    refine lv_iadd hx hb dL_law_1189 ?_
    refine lv_topi (fun y_26 ey_26 => ?_)
    have ty_26 : y_26.toInt = i0.toInt + 4 := xI_add rfl rfl ey_26 (by omega) (by omega)
    refine va_sld hx hb hX hbl hbA hS (vin (by omega) (by omega)) dL_law_1190 ?_
    refine lv_topi (fun y_27 ey_27 => ?_)
    have u_28 : y_27.toInt = (xs (i0 + 4).toNatClampNeg).toInt := by rw [ey_27, ey_26]
    have g_29 : gP G_14 = gP G := gP_fr (rs := [37, 38, 39, 40, 42, 43, 46, 47]) (fs := [(6, 3), (7, 1), (7, 2), (7, 3), (7, 4), (7, 5), (7, 6), (7, 7)]) (Fr.rf.call hq_15 (by decide) (by decide)) (by decide) (by decide)
    have g_30 : gW G_14 = gW G := gW_fr (rs := [37, 38, 39, 40, 42, 43, 46, 47]) (fs := [(6, 3), (7, 1), (7, 2), (7, 3), (7, 4), (7, 5), (7, 6), (7, 7)]) (Fr.rf.call hq_15 (by decide) (by decide)) (by decide) (by decide)
    refine S_calli (va_runV (As := [.int y_18, .int y_21, .int y_24, .int y_27]) (rest := []) ⟨hx, hb, hml, hown, hts⟩ (n_wager l D k A a z G_14 y_18 y_21 y_24 y_27 (by omega) (by omega)) (cwV 4 hts (gd_V hgd m1967 m1968 m1969 m131 m1970) rfl rfl rfl (by decide +kernel) ⟨Nat.le_of_ble_eq_true rfl, Nat.le_of_ble_eq_true rfl⟩) (pre_V hW hB_G_14 hK hZ hS kd_66 rfl) rfl rfl hl.1 rfl (lv_room (Nat.le_of_ble_eq_true rfl)) dL_law_1191 ⟨Nat.le_of_ble_eq_true rfl, Nat.le_of_ble_eq_true rfl⟩) hS (fun r_31 G_32 H locs hpo hW hS => ?_)
    obtain ⟨hB_G_32, hq_33⟩ := hpo
    refine lv_pop hx hb dL_law_1194 rfl ?_
    refine lv_goto (tgt := 1642) hx hb dL_law_1195 (by decide) ?_
    have g_35 : gO G_32 = gO G := gO_fr (rs := [37, 38, 39, 40, 42, 43, 46, 47, 76, 97, 98, 99, 107, 108, 109]) (fs := [(6, 3), (7, 1), (7, 2), (7, 3), (7, 4), (7, 5), (7, 6), (7, 7), (66, 59), (66, 60), (66, 61), (66, 62), (66, 63)]) ((Fr.rf.call hq_15 (by decide) (by decide)).call hq_33 (by decide) (by decide)) (by decide) (by decide)
    have g_36 : gP G_32 = gP G := gP_fr (rs := [37, 38, 39, 40, 42, 43, 46, 47, 76, 97, 98, 99, 107, 108, 109]) (fs := [(6, 3), (7, 1), (7, 2), (7, 3), (7, 4), (7, 5), (7, 6), (7, 7), (66, 59), (66, 60), (66, 61), (66, 62), (66, 63)]) ((Fr.rf.call hq_15 (by decide) (by decide)).call hq_33 (by decide) (by decide)) (by decide) (by decide)
    have g_37 : gS G_32 = gS G := gS_fr (rs := [37, 38, 39, 40, 42, 43, 46, 47, 76, 97, 98, 99, 107, 108, 109]) (fs := [(6, 3), (7, 1), (7, 2), (7, 3), (7, 4), (7, 5), (7, 6), (7, 7), (66, 59), (66, 60), (66, 61), (66, 62), (66, 63)]) ((Fr.rf.call hq_15 (by decide) (by decide)).call hq_33 (by decide) (by decide)) (by decide) (by decide)
    have g_38 : gW G_32 = gW G := gW_fr (rs := [37, 38, 39, 40, 42, 43, 46, 47, 76, 97, 98, 99, 107, 108, 109]) (fs := [(6, 3), (7, 1), (7, 2), (7, 3), (7, 4), (7, 5), (7, 6), (7, 7), (66, 59), (66, 60), (66, 61), (66, 62), (66, 63)]) ((Fr.rf.call hq_15 (by decide) (by decide)).call hq_33 (by decide) (by decide)) (by decide) (by decide)
    have b_39 : 0 ≤ (G.1 0 11).toInt ∧ (G.1 0 11).toInt ≤ 1600 := hB_G.i 0 11 rfl rfl
    have g_40 : (G_32.1 0 11).toInt = (G.1 0 11).toInt := by rw [show G_32.1 0 11 = (G.1 0 11) from ((hq_33.i 0 11 (by decide) (by decide)).trans (hq_15.i 0 11 (by decide) (by decide)))]
    have b_41 : 0 ≤ (G.1 30 4).toInt ∧ (G.1 30 4).toInt ≤ 40 := hB_G.i 30 4 rfl rfl
    have g_42 : (G_32.1 30 4).toInt = (G.1 30 4).toInt := by rw [show G_32.1 30 4 = (G.1 30 4) from ((hq_33.i 30 4 (by decide) (by decide)).trans (hq_15.i 30 4 (by decide) (by decide)))]
    have b_43 : 0 ≤ (G.1 30 5).toInt ∧ (G.1 30 5).toInt ≤ 40 := hB_G.i 30 5 rfl rfl
    have g_44 : (G_32.1 30 5).toInt = (G.1 30 5).toInt := by rw [show G_32.1 30 5 = (G.1 30 5) from ((hq_33.i 30 5 (by decide) (by decide)).trans (hq_15.i 30 5 (by decide) (by decide)))]
    have b_45 : 0 ≤ (G.1 31 6).toInt ∧ (G.1 31 6).toInt ≤ 100000 := hB_G.i 31 6 rfl rfl
    have g_46 : (G_32.1 31 6).toInt = (G.1 31 6).toInt := by rw [show G_32.1 31 6 = (G.1 31 6) from ((hq_33.i 31 6 (by decide) (by decide)).trans (hq_15.i 31 6 (by decide) (by decide)))]
    have b_47 : 0 ≤ (G.1 66 1).toInt ∧ (G.1 66 1).toInt ≤ 1600 := hB_G.i 66 1 rfl rfl
    have g_48 : (G_32.1 66 1).toInt = (G.1 66 1).toInt := by rw [show G_32.1 66 1 = (G.1 66 1) from ((hq_33.i 66 1 (by decide) (by decide)).trans (hq_15.i 66 1 (by decide) (by decide)))]
    have b_49 : 0 ≤ (G.1 66 78).toInt ∧ (G.1 66 78).toInt ≤ 40 := hB_G.i 66 78 rfl rfl
    have g_50 : (G_32.1 66 78).toInt = (G.1 66 78).toInt := by rw [show G_32.1 66 78 = (G.1 66 78) from ((hq_33.i 66 78 (by decide) (by decide)).trans (hq_15.i 66 78 (by decide) (by decide)))]
    have b_51 : 0 ≤ (G.1 66 79).toInt ∧ (G.1 66 79).toInt ≤ 40 := hB_G.i 66 79 rfl rfl
    have g_52 : (G_32.1 66 79).toInt = (G.1 66 79).toInt := by rw [show G_32.1 66 79 = (G.1 66 79) from ((hq_33.i 66 79 (by decide) (by decide)).trans (hq_15.i 66 79 (by decide) (by decide)))]
    have b_53 : 0 ≤ (G.1 66 86).toInt ∧ (G.1 66 86).toInt ≤ 100000 := hB_G.i 66 86 rfl rfl
    have g_54 : (G_32.1 66 86).toInt = (G.1 66 86).toInt := by rw [show G_32.1 66 86 = (G.1 66 86) from ((hq_33.i 66 86 (by decide) (by decide)).trans (hq_15.i 66 86 (by decide) (by decide)))]
    have b_55 : 0 ≤ (G.1 96 0).toInt ∧ (G.1 96 0).toInt ≤ 9 := hB_G.i 96 0 rfl rfl
    have g_56 : (G_32.1 96 0).toInt = (G.1 96 0).toInt := by rw [show G_32.1 96 0 = (G.1 96 0) from ((hq_33.i 96 0 (by decide) (by decide)).trans (hq_15.i 96 0 (by decide) (by decide)))]
    have b_57 : 0 ≤ (G.1 96 1).toInt ∧ (G.1 96 1).toInt ≤ 9 := hB_G.i 96 1 rfl rfl
    have g_58 : (G_32.1 96 1).toInt = (G.1 96 1).toInt := by rw [show G_32.1 96 1 = (G.1 96 1) from ((hq_33.i 96 1 (by decide) (by decide)).trans (hq_15.i 96 1 (by decide) (by decide)))]
    have b_59 : 0 ≤ (G.1 96 2).toInt ∧ (G.1 96 2).toInt ≤ 9 := hB_G.i 96 2 rfl rfl
    have g_60 : (G_32.1 96 2).toInt = (G.1 96 2).toInt := by rw [show G_32.1 96 2 = (G.1 96 2) from ((hq_33.i 96 2 (by decide) (by decide)).trans (hq_15.i 96 2 (by decide) (by decide)))]
    exact K G_32 _ _ _ (Or.inr ⟨((((hq_33.r 0 0 (by decide) (by decide)).trans (hq_15.r 0 0 (by decide) (by decide)))).trans (hv_0_0)), ((((hq_33.r 0 1 (by decide) (by decide)).trans (hq_15.r 0 1 (by decide) (by decide)))).trans (hv_0_1)), ((((hq_33.r 6 4 (by decide) (by decide)).trans (hq_15.r 6 4 (by decide) (by decide)))).trans (hv_6_4)), by omega, by omega, by omega, by omega, by omega, by omega, by omega, by omega, by omega⟩) hB_G_32 hW hS (lv_sub hl [0, 1, 2, 3] rfl)
