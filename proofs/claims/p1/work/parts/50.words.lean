set_option maxRecDepth 20000 in
theorem m138 : Cond.classLink RL 7 RX11 ∈ gd := gd_mem 138 (by decide +kernel) (by decide +kernel)
set_option maxRecDepth 20000 in
theorem m139 : Cond.instantiable RX11 13 ∈ gd := gd_mem 139 (by decide +kernel) (by decide +kernel)
set_option maxRecDepth 20000 in
theorem m140 : Cond.methodLink RL 9 yX11_init ∈ gd := gd_mem 140 (by decide +kernel) (by decide +kernel)
set_option maxRecDepth 20000 in
theorem m141 : Cond.instanceMethod yX11_init ∈ gd := gd_mem 141 (by decide +kernel) (by decide +kernel)
set_option maxRecDepth 20000 in
theorem m142 : Cond.code yX11_init cX11_init 1 none ∈ gd := gd_mem 142 (by decide +kernel) (by decide +kernel)
set_option maxRecDepth 20000 in
theorem m610 : Cond.methodLink RL 13 yX11_feed ∈ gd := gd_mem 610 (by decide +kernel) (by decide +kernel)
set_option maxRecDepth 20000 in
theorem m611 : Cond.instanceMethod yX11_feed ∈ gd := gd_mem 611 (by decide +kernel) (by decide +kernel)
set_option maxRecDepth 20000 in
theorem m612 : Cond.selects RX11 yX11_feed yX11_feed ∈ gd := gd_mem 612 (by decide +kernel) (by decide +kernel)
set_option maxRecDepth 20000 in
theorem m613 : Cond.code yX11_feed cX11_feed 6 (some .int) ∈ gd := gd_mem 613 (by decide +kernel) (by decide +kernel)
set_option maxRecDepth 20000 in
theorem m618 : Cond.methodLink RL 18 yX11_end ∈ gd := gd_mem 618 (by decide +kernel) (by decide +kernel)
set_option maxRecDepth 20000 in
theorem m619 : Cond.instanceMethod yX11_end ∈ gd := gd_mem 619 (by decide +kernel) (by decide +kernel)
set_option maxRecDepth 20000 in
theorem m620 : Cond.selects RX11 yX11_end yX11_end ∈ gd := gd_mem 620 (by decide +kernel) (by decide +kernel)
set_option maxRecDepth 20000 in
theorem m621 : Cond.code yX11_end cX11_end 2 (some .int) ∈ gd := gd_mem 621 (by decide +kernel) (by decide +kernel)
set_option maxRecDepth 20000 in
theorem m622 : Cond.methodLink RL 23 yX11_pavement ∈ gd := gd_mem 622 (by decide +kernel) (by decide +kernel)
set_option maxRecDepth 20000 in
theorem m623 : Cond.instanceMethod yX11_pavement ∈ gd := gd_mem 623 (by decide +kernel) (by decide +kernel)
set_option maxRecDepth 20000 in
theorem m624 : Cond.selects RX11 yX11_pavement yX11_pavement ∈ gd := gd_mem 624 (by decide +kernel) (by decide +kernel)
set_option maxRecDepth 20000 in
theorem m625 : Cond.code yX11_pavement cX11_pavement 3 (some .int) ∈ gd := gd_mem 625 (by decide +kernel) (by decide +kernel)
set_option maxRecDepth 20000 in
theorem m874 : Cond.methodLink RL 28 yX11_fault ∈ gd := gd_mem 874 (by decide +kernel) (by decide +kernel)
set_option maxRecDepth 20000 in
theorem m875 : Cond.instanceMethod yX11_fault ∈ gd := gd_mem 875 (by decide +kernel) (by decide +kernel)
set_option maxRecDepth 20000 in
theorem m876 : Cond.selects RX11 yX11_fault yX11_fault ∈ gd := gd_mem 876 (by decide +kernel) (by decide +kernel)
set_option maxRecDepth 20000 in
theorem m877 : Cond.code yX11_fault cX11_fault 2 (some .int) ∈ gd := gd_mem 877 (by decide +kernel) (by decide +kernel)
set_option maxRecDepth 20000 in
theorem m878 : Cond.methodLink RL 32 yX11_inch ∈ gd := gd_mem 878 (by decide +kernel) (by decide +kernel)
set_option maxRecDepth 20000 in
theorem m879 : Cond.instanceMethod yX11_inch ∈ gd := gd_mem 879 (by decide +kernel) (by decide +kernel)
set_option maxRecDepth 20000 in
theorem m880 : Cond.selects RX11 yX11_inch yX11_inch ∈ gd := gd_mem 880 (by decide +kernel) (by decide +kernel)
set_option maxRecDepth 20000 in
theorem m881 : Cond.code yX11_inch cX11_inch 4 (some .int) ∈ gd := gd_mem 881 (by decide +kernel) (by decide +kernel)
set_option maxRecDepth 20000 in
theorem m898 : Cond.methodLink RL 37 yX11_length ∈ gd := gd_mem 898 (by decide +kernel) (by decide +kernel)
set_option maxRecDepth 20000 in
theorem m899 : Cond.instanceMethod yX11_length ∈ gd := gd_mem 899 (by decide +kernel) (by decide +kernel)
set_option maxRecDepth 20000 in
theorem m900 : Cond.selects RX11 yX11_length yX11_length ∈ gd := gd_mem 900 (by decide +kernel) (by decide +kernel)
set_option maxRecDepth 20000 in
theorem m901 : Cond.code yX11_length cX11_length 2 (some .int) ∈ gd := gd_mem 901 (by decide +kernel) (by decide +kernel)
set_option maxRecDepth 20000 in
theorem m903 : Cond.methodLink RL 41 yX11_line ∈ gd := gd_mem 903 (by decide +kernel) (by decide +kernel)
set_option maxRecDepth 20000 in
theorem m904 : Cond.instanceMethod yX11_line ∈ gd := gd_mem 904 (by decide +kernel) (by decide +kernel)
set_option maxRecDepth 20000 in
theorem m905 : Cond.selects RX11 yX11_line yX11_line ∈ gd := gd_mem 905 (by decide +kernel) (by decide +kernel)
set_option maxRecDepth 20000 in
theorem m906 : Cond.code yX11_line cX11_line 4 (some .int) ∈ gd := gd_mem 906 (by decide +kernel) (by decide +kernel)
set_option maxRecDepth 20000 in
theorem m945 : Cond.methodLink RL 45 yX11_gap ∈ gd := gd_mem 945 (by decide +kernel) (by decide +kernel)
set_option maxRecDepth 20000 in
theorem m946 : Cond.instanceMethod yX11_gap ∈ gd := gd_mem 946 (by decide +kernel) (by decide +kernel)
set_option maxRecDepth 20000 in
theorem m947 : Cond.selects RX11 yX11_gap yX11_gap ∈ gd := gd_mem 947 (by decide +kernel) (by decide +kernel)
set_option maxRecDepth 20000 in
theorem m948 : Cond.code yX11_gap cX11_gap 10 (some .int) ∈ gd := gd_mem 948 (by decide +kernel) (by decide +kernel)
set_option maxRecDepth 20000 in
theorem m949 : Cond.methodLink RL 49 yX11_foot ∈ gd := gd_mem 949 (by decide +kernel) (by decide +kernel)
set_option maxRecDepth 20000 in
theorem m950 : Cond.instanceMethod yX11_foot ∈ gd := gd_mem 950 (by decide +kernel) (by decide +kernel)
set_option maxRecDepth 20000 in
theorem m951 : Cond.selects RX11 yX11_foot yX11_foot ∈ gd := gd_mem 951 (by decide +kernel) (by decide +kernel)
set_option maxRecDepth 20000 in
theorem m952 : Cond.code yX11_foot cX11_foot 5 (some .int) ∈ gd := gd_mem 952 (by decide +kernel) (by decide +kernel)
set_option maxRecDepth 20000 in
theorem m971 : Cond.methodLink RL 54 yX11_fewest ∈ gd := gd_mem 971 (by decide +kernel) (by decide +kernel)
set_option maxRecDepth 20000 in
theorem m972 : Cond.instanceMethod yX11_fewest ∈ gd := gd_mem 972 (by decide +kernel) (by decide +kernel)
set_option maxRecDepth 20000 in
theorem m973 : Cond.selects RX11 yX11_fewest yX11_fewest ∈ gd := gd_mem 973 (by decide +kernel) (by decide +kernel)
set_option maxRecDepth 20000 in
theorem m974 : Cond.code yX11_fewest cX11_fewest 6 (some .int) ∈ gd := gd_mem 974 (by decide +kernel) (by decide +kernel)
set_option maxRecDepth 20000 in
theorem m1014 : Cond.methodLink RL 58 yX11_ways ∈ gd := gd_mem 1014 (by decide +kernel) (by decide +kernel)
set_option maxRecDepth 20000 in
theorem m1015 : Cond.instanceMethod yX11_ways ∈ gd := gd_mem 1015 (by decide +kernel) (by decide +kernel)
set_option maxRecDepth 20000 in
theorem m1016 : Cond.selects RX11 yX11_ways yX11_ways ∈ gd := gd_mem 1016 (by decide +kernel) (by decide +kernel)
set_option maxRecDepth 20000 in
theorem m1017 : Cond.code yX11_ways cX11_ways 5 (some .long) ∈ gd := gd_mem 1017 (by decide +kernel) (by decide +kernel)
set_option maxRecDepth 20000 in
theorem m1036 : Cond.methodLink RL 63 yX11_evenest ∈ gd := gd_mem 1036 (by decide +kernel) (by decide +kernel)
set_option maxRecDepth 20000 in
theorem m1037 : Cond.instanceMethod yX11_evenest ∈ gd := gd_mem 1037 (by decide +kernel) (by decide +kernel)
set_option maxRecDepth 20000 in
theorem m1038 : Cond.selects RX11 yX11_evenest yX11_evenest ∈ gd := gd_mem 1038 (by decide +kernel) (by decide +kernel)
set_option maxRecDepth 20000 in
theorem m1039 : Cond.code yX11_evenest cX11_evenest 5 (some .int) ∈ gd := gd_mem 1039 (by decide +kernel) (by decide +kernel)
set_option maxRecDepth 20000 in
theorem m1049 : Cond.methodLink RL 67 yX11_even ∈ gd := gd_mem 1049 (by decide +kernel) (by decide +kernel)
set_option maxRecDepth 20000 in
theorem m1050 : Cond.instanceMethod yX11_even ∈ gd := gd_mem 1050 (by decide +kernel) (by decide +kernel)
set_option maxRecDepth 20000 in
theorem m1051 : Cond.selects RX11 yX11_even yX11_even ∈ gd := gd_mem 1051 (by decide +kernel) (by decide +kernel)
set_option maxRecDepth 20000 in
theorem m1052 : Cond.code yX11_even cX11_even 8 (some .int) ∈ gd := gd_mem 1052 (by decide +kernel) (by decide +kernel)
set_option maxRecDepth 20000 in
theorem m1053 : Cond.methodLink RL 71 yX11_evens ∈ gd := gd_mem 1053 (by decide +kernel) (by decide +kernel)
set_option maxRecDepth 20000 in
theorem m1054 : Cond.instanceMethod yX11_evens ∈ gd := gd_mem 1054 (by decide +kernel) (by decide +kernel)
set_option maxRecDepth 20000 in
theorem m1055 : Cond.selects RX11 yX11_evens yX11_evens ∈ gd := gd_mem 1055 (by decide +kernel) (by decide +kernel)
set_option maxRecDepth 20000 in
theorem m1056 : Cond.code yX11_evens cX11_evens 5 (some .int) ∈ gd := gd_mem 1056 (by decide +kernel) (by decide +kernel)
set_option maxRecDepth 20000 in
theorem m1065 : Cond.methodLink RL 75 yX11_first ∈ gd := gd_mem 1065 (by decide +kernel) (by decide +kernel)
set_option maxRecDepth 20000 in
theorem m1066 : Cond.instanceMethod yX11_first ∈ gd := gd_mem 1066 (by decide +kernel) (by decide +kernel)
set_option maxRecDepth 20000 in
theorem m1067 : Cond.selects RX11 yX11_first yX11_first ∈ gd := gd_mem 1067 (by decide +kernel) (by decide +kernel)
set_option maxRecDepth 20000 in
theorem m1068 : Cond.code yX11_first cX11_first 9 (some .int) ∈ gd := gd_mem 1068 (by decide +kernel) (by decide +kernel)
set_option maxRecDepth 20000 in
theorem m1072 : Cond.methodLink RL 79 yX11_begin ∈ gd := gd_mem 1072 (by decide +kernel) (by decide +kernel)
set_option maxRecDepth 20000 in
theorem m1073 : Cond.instanceMethod yX11_begin ∈ gd := gd_mem 1073 (by decide +kernel) (by decide +kernel)
set_option maxRecDepth 20000 in
theorem m1074 : Cond.selects RX11 yX11_begin yX11_begin ∈ gd := gd_mem 1074 (by decide +kernel) (by decide +kernel)
set_option maxRecDepth 20000 in
theorem m1075 : Cond.code yX11_begin cX11_begin 5 (some .int) ∈ gd := gd_mem 1075 (by decide +kernel) (by decide +kernel)
set_option maxRecDepth 20000 in
theorem m1083 : Cond.methodLink RL 83 yX11_suits ∈ gd := gd_mem 1083 (by decide +kernel) (by decide +kernel)
set_option maxRecDepth 20000 in
theorem m1084 : Cond.instanceMethod yX11_suits ∈ gd := gd_mem 1084 (by decide +kernel) (by decide +kernel)
set_option maxRecDepth 20000 in
theorem m1085 : Cond.selects RX11 yX11_suits yX11_suits ∈ gd := gd_mem 1085 (by decide +kernel) (by decide +kernel)
set_option maxRecDepth 20000 in
theorem m1086 : Cond.code yX11_suits cX11_suits 9 (some .long) ∈ gd := gd_mem 1086 (by decide +kernel) (by decide +kernel)
set_option maxRecDepth 20000 in
theorem m1087 : Cond.methodLink RL 88 yX11_keeps ∈ gd := gd_mem 1087 (by decide +kernel) (by decide +kernel)
set_option maxRecDepth 20000 in
theorem m1088 : Cond.instanceMethod yX11_keeps ∈ gd := gd_mem 1088 (by decide +kernel) (by decide +kernel)
set_option maxRecDepth 20000 in
theorem m1089 : Cond.selects RX11 yX11_keeps yX11_keeps ∈ gd := gd_mem 1089 (by decide +kernel) (by decide +kernel)
set_option maxRecDepth 20000 in
theorem m1090 : Cond.code yX11_keeps cX11_keeps 4 (some .int) ∈ gd := gd_mem 1090 (by decide +kernel) (by decide +kernel)
set_option maxRecDepth 20000 in
theorem m1113 : Cond.methodLink RL 92 yX11_brave ∈ gd := gd_mem 1113 (by decide +kernel) (by decide +kernel)
set_option maxRecDepth 20000 in
theorem m1114 : Cond.instanceMethod yX11_brave ∈ gd := gd_mem 1114 (by decide +kernel) (by decide +kernel)
set_option maxRecDepth 20000 in
theorem m1115 : Cond.selects RX11 yX11_brave yX11_brave ∈ gd := gd_mem 1115 (by decide +kernel) (by decide +kernel)
set_option maxRecDepth 20000 in
theorem m1116 : Cond.code yX11_brave cX11_brave 6 (some .long) ∈ gd := gd_mem 1116 (by decide +kernel) (by decide +kernel)
set_option maxRecDepth 20000 in
theorem m1134 : Cond.methodLink RL 96 yX11_boldest ∈ gd := gd_mem 1134 (by decide +kernel) (by decide +kernel)
set_option maxRecDepth 20000 in
theorem m1135 : Cond.instanceMethod yX11_boldest ∈ gd := gd_mem 1135 (by decide +kernel) (by decide +kernel)
set_option maxRecDepth 20000 in
theorem m1136 : Cond.selects RX11 yX11_boldest yX11_boldest ∈ gd := gd_mem 1136 (by decide +kernel) (by decide +kernel)
set_option maxRecDepth 20000 in
theorem m1137 : Cond.code yX11_boldest cX11_boldest 6 (some .int) ∈ gd := gd_mem 1137 (by decide +kernel) (by decide +kernel)
set_option maxRecDepth 20000 in
theorem m1142 : Cond.methodLink RL 100 yX11_wager ∈ gd := gd_mem 1142 (by decide +kernel) (by decide +kernel)
set_option maxRecDepth 20000 in
theorem m1143 : Cond.instanceMethod yX11_wager ∈ gd := gd_mem 1143 (by decide +kernel) (by decide +kernel)
set_option maxRecDepth 20000 in
theorem m1144 : Cond.selects RX11 yX11_wager yX11_wager ∈ gd := gd_mem 1144 (by decide +kernel) (by decide +kernel)
set_option maxRecDepth 20000 in
theorem m1145 : Cond.code yX11_wager cX11_wager 6 (some .int) ∈ gd := gd_mem 1145 (by decide +kernel) (by decide +kernel)
set_option maxRecDepth 20000 in
theorem m1162 : Cond.methodLink RL 104 yX11_leave ∈ gd := gd_mem 1162 (by decide +kernel) (by decide +kernel)
set_option maxRecDepth 20000 in
theorem m1163 : Cond.instanceMethod yX11_leave ∈ gd := gd_mem 1163 (by decide +kernel) (by decide +kernel)
set_option maxRecDepth 20000 in
theorem m1164 : Cond.selects RX11 yX11_leave yX11_leave ∈ gd := gd_mem 1164 (by decide +kernel) (by decide +kernel)
set_option maxRecDepth 20000 in
theorem m1165 : Cond.code yX11_leave cX11_leave 5 (some .int) ∈ gd := gd_mem 1165 (by decide +kernel) (by decide +kernel)
set_option maxRecDepth 20000 in
theorem m1166 : Cond.methodLink RL 109 yX11_walk ∈ gd := gd_mem 1166 (by decide +kernel) (by decide +kernel)
set_option maxRecDepth 20000 in
theorem m1167 : Cond.instanceMethod yX11_walk ∈ gd := gd_mem 1167 (by decide +kernel) (by decide +kernel)
set_option maxRecDepth 20000 in
theorem m1168 : Cond.selects RX11 yX11_walk yX11_walk ∈ gd := gd_mem 1168 (by decide +kernel) (by decide +kernel)
set_option maxRecDepth 20000 in
theorem m1169 : Cond.code yX11_walk cX11_walk 4 (some .int) ∈ gd := gd_mem 1169 (by decide +kernel) (by decide +kernel)
set_option maxRecDepth 20000 in
theorem m1182 : Cond.methodLink RL 113 yX11_go ∈ gd := gd_mem 1182 (by decide +kernel) (by decide +kernel)
set_option maxRecDepth 20000 in
theorem m1183 : Cond.instanceMethod yX11_go ∈ gd := gd_mem 1183 (by decide +kernel) (by decide +kernel)
set_option maxRecDepth 20000 in
theorem m1184 : Cond.selects RX11 yX11_go yX11_go ∈ gd := gd_mem 1184 (by decide +kernel) (by decide +kernel)
set_option maxRecDepth 20000 in
theorem m1185 : Cond.code yX11_go cX11_go 5 (some .int) ∈ gd := gd_mem 1185 (by decide +kernel) (by decide +kernel)
set_option maxRecDepth 20000 in
theorem m1202 : Cond.methodLink RL 117 yX11_force ∈ gd := gd_mem 1202 (by decide +kernel) (by decide +kernel)
set_option maxRecDepth 20000 in
theorem m1203 : Cond.instanceMethod yX11_force ∈ gd := gd_mem 1203 (by decide +kernel) (by decide +kernel)
set_option maxRecDepth 20000 in
theorem m1204 : Cond.selects RX11 yX11_force yX11_force ∈ gd := gd_mem 1204 (by decide +kernel) (by decide +kernel)
set_option maxRecDepth 20000 in
theorem m1205 : Cond.code yX11_force cX11_force 2 (some .int) ∈ gd := gd_mem 1205 (by decide +kernel) (by decide +kernel)
set_option maxRecDepth 20000 in
theorem m1210 : Cond.methodLink RL 121 yX11_rain ∈ gd := gd_mem 1210 (by decide +kernel) (by decide +kernel)
set_option maxRecDepth 20000 in
theorem m1211 : Cond.instanceMethod yX11_rain ∈ gd := gd_mem 1211 (by decide +kernel) (by decide +kernel)
set_option maxRecDepth 20000 in
theorem m1212 : Cond.selects RX11 yX11_rain yX11_rain ∈ gd := gd_mem 1212 (by decide +kernel) (by decide +kernel)
set_option maxRecDepth 20000 in
theorem m1213 : Cond.code yX11_rain cX11_rain 1 (some .boolean) ∈ gd := gd_mem 1213 (by decide +kernel) (by decide +kernel)
set_option maxRecDepth 20000 in
theorem m1214 : Cond.methodLink RL 126 yX11_day ∈ gd := gd_mem 1214 (by decide +kernel) (by decide +kernel)
set_option maxRecDepth 20000 in
theorem m1215 : Cond.instanceMethod yX11_day ∈ gd := gd_mem 1215 (by decide +kernel) (by decide +kernel)
set_option maxRecDepth 20000 in
theorem m1216 : Cond.selects RX11 yX11_day yX11_day ∈ gd := gd_mem 1216 (by decide +kernel) (by decide +kernel)
set_option maxRecDepth 20000 in
theorem m1217 : Cond.code yX11_day cX11_day 1 (some .int) ∈ gd := gd_mem 1217 (by decide +kernel) (by decide +kernel)
set_option maxRecDepth 20000 in
theorem m1218 : Cond.methodLink RL 130 yX11_undo ∈ gd := gd_mem 1218 (by decide +kernel) (by decide +kernel)
set_option maxRecDepth 20000 in
theorem m1219 : Cond.instanceMethod yX11_undo ∈ gd := gd_mem 1219 (by decide +kernel) (by decide +kernel)
set_option maxRecDepth 20000 in
theorem m1220 : Cond.selects RX11 yX11_undo yX11_undo ∈ gd := gd_mem 1220 (by decide +kernel) (by decide +kernel)
set_option maxRecDepth 20000 in
theorem m1221 : Cond.code yX11_undo cX11_undo 1 (some .boolean) ∈ gd := gd_mem 1221 (by decide +kernel) (by decide +kernel)
set_option maxRecDepth 20000 in
theorem m1226 : Cond.methodLink RL 134 yX11_redo ∈ gd := gd_mem 1226 (by decide +kernel) (by decide +kernel)
set_option maxRecDepth 20000 in
theorem m1227 : Cond.instanceMethod yX11_redo ∈ gd := gd_mem 1227 (by decide +kernel) (by decide +kernel)
set_option maxRecDepth 20000 in
theorem m1228 : Cond.selects RX11 yX11_redo yX11_redo ∈ gd := gd_mem 1228 (by decide +kernel) (by decide +kernel)
set_option maxRecDepth 20000 in
theorem m1229 : Cond.code yX11_redo cX11_redo 1 (some .boolean) ∈ gd := gd_mem 1229 (by decide +kernel) (by decide +kernel)
set_option maxRecDepth 20000 in
theorem m1234 : Cond.methodLink RL 138 yX11_walker ∈ gd := gd_mem 1234 (by decide +kernel) (by decide +kernel)
set_option maxRecDepth 20000 in
theorem m1235 : Cond.instanceMethod yX11_walker ∈ gd := gd_mem 1235 (by decide +kernel) (by decide +kernel)
set_option maxRecDepth 20000 in
theorem m1236 : Cond.selects RX11 yX11_walker yX11_walker ∈ gd := gd_mem 1236 (by decide +kernel) (by decide +kernel)
set_option maxRecDepth 20000 in
theorem m1237 : Cond.code yX11_walker cX11_walker 2 (some .int) ∈ gd := gd_mem 1237 (by decide +kernel) (by decide +kernel)
set_option maxRecDepth 20000 in
theorem m1238 : Cond.methodLink RL 142 yX11_lies ∈ gd := gd_mem 1238 (by decide +kernel) (by decide +kernel)
set_option maxRecDepth 20000 in
theorem m1239 : Cond.instanceMethod yX11_lies ∈ gd := gd_mem 1239 (by decide +kernel) (by decide +kernel)
set_option maxRecDepth 20000 in
theorem m1240 : Cond.selects RX11 yX11_lies yX11_lies ∈ gd := gd_mem 1240 (by decide +kernel) (by decide +kernel)
set_option maxRecDepth 20000 in
theorem m1241 : Cond.code yX11_lies cX11_lies 2 (some .int) ∈ gd := gd_mem 1241 (by decide +kernel) (by decide +kernel)
set_option maxRecDepth 20000 in
theorem m1242 : Cond.methodLink RL 146 yX11_sight ∈ gd := gd_mem 1242 (by decide +kernel) (by decide +kernel)
set_option maxRecDepth 20000 in
theorem m1243 : Cond.instanceMethod yX11_sight ∈ gd := gd_mem 1243 (by decide +kernel) (by decide +kernel)
set_option maxRecDepth 20000 in
theorem m1244 : Cond.selects RX11 yX11_sight yX11_sight ∈ gd := gd_mem 1244 (by decide +kernel) (by decide +kernel)
set_option maxRecDepth 20000 in
theorem m1245 : Cond.code yX11_sight cX11_sight 4 (some .int) ∈ gd := gd_mem 1245 (by decide +kernel) (by decide +kernel)
set_option maxRecDepth 20000 in
theorem m1250 : Cond.methodLink RL 150 yX11_untell ∈ gd := gd_mem 1250 (by decide +kernel) (by decide +kernel)
set_option maxRecDepth 20000 in
theorem m1251 : Cond.instanceMethod yX11_untell ∈ gd := gd_mem 1251 (by decide +kernel) (by decide +kernel)
set_option maxRecDepth 20000 in
theorem m1252 : Cond.selects RX11 yX11_untell yX11_untell ∈ gd := gd_mem 1252 (by decide +kernel) (by decide +kernel)
set_option maxRecDepth 20000 in
theorem m1253 : Cond.code yX11_untell cX11_untell 2 (some .boolean) ∈ gd := gd_mem 1253 (by decide +kernel) (by decide +kernel)
set_option maxRecDepth 20000 in
theorem m1258 : Cond.methodLink RL 155 yX11_later ∈ gd := gd_mem 1258 (by decide +kernel) (by decide +kernel)
set_option maxRecDepth 20000 in
theorem m1259 : Cond.instanceMethod yX11_later ∈ gd := gd_mem 1259 (by decide +kernel) (by decide +kernel)
set_option maxRecDepth 20000 in
theorem m1260 : Cond.selects RX11 yX11_later yX11_later ∈ gd := gd_mem 1260 (by decide +kernel) (by decide +kernel)
set_option maxRecDepth 20000 in
theorem m1261 : Cond.code yX11_later cX11_later 2 (some .int) ∈ gd := gd_mem 1261 (by decide +kernel) (by decide +kernel)
set_option maxRecDepth 20000 in
theorem m1263 : Cond.methodLink RL 159 yX11_fits ∈ gd := gd_mem 1263 (by decide +kernel) (by decide +kernel)
set_option maxRecDepth 20000 in
theorem m1264 : Cond.instanceMethod yX11_fits ∈ gd := gd_mem 1264 (by decide +kernel) (by decide +kernel)
set_option maxRecDepth 20000 in
theorem m1265 : Cond.selects RX11 yX11_fits yX11_fits ∈ gd := gd_mem 1265 (by decide +kernel) (by decide +kernel)
set_option maxRecDepth 20000 in
theorem m1266 : Cond.code yX11_fits cX11_fits 4 (some .int) ∈ gd := gd_mem 1266 (by decide +kernel) (by decide +kernel)
set_option maxRecDepth 20000 in
theorem m1279 : Cond.methodLink RL 163 yX11_chance ∈ gd := gd_mem 1279 (by decide +kernel) (by decide +kernel)
set_option maxRecDepth 20000 in
theorem m1280 : Cond.instanceMethod yX11_chance ∈ gd := gd_mem 1280 (by decide +kernel) (by decide +kernel)
set_option maxRecDepth 20000 in
theorem m1281 : Cond.selects RX11 yX11_chance yX11_chance ∈ gd := gd_mem 1281 (by decide +kernel) (by decide +kernel)
set_option maxRecDepth 20000 in
theorem m1282 : Cond.code yX11_chance cX11_chance 10 (some .long) ∈ gd := gd_mem 1282 (by decide +kernel) (by decide +kernel)
set_option maxRecDepth 20000 in
theorem m1287 : Cond.methodLink RL 168 yX11_image ∈ gd := gd_mem 1287 (by decide +kernel) (by decide +kernel)
set_option maxRecDepth 20000 in
theorem m1288 : Cond.instanceMethod yX11_image ∈ gd := gd_mem 1288 (by decide +kernel) (by decide +kernel)
set_option maxRecDepth 20000 in
theorem m1289 : Cond.selects RX11 yX11_image yX11_image ∈ gd := gd_mem 1289 (by decide +kernel) (by decide +kernel)
set_option maxRecDepth 20000 in
theorem m1290 : Cond.code yX11_image cX11_image 2 (some .int) ∈ gd := gd_mem 1290 (by decide +kernel) (by decide +kernel)
set_option maxRecDepth 20000 in
theorem m1295 : Cond.methodLink RL 172 yX11_back ∈ gd := gd_mem 1295 (by decide +kernel) (by decide +kernel)
set_option maxRecDepth 20000 in
theorem m1296 : Cond.instanceMethod yX11_back ∈ gd := gd_mem 1296 (by decide +kernel) (by decide +kernel)
set_option maxRecDepth 20000 in
theorem m1297 : Cond.selects RX11 yX11_back yX11_back ∈ gd := gd_mem 1297 (by decide +kernel) (by decide +kernel)
set_option maxRecDepth 20000 in
theorem m1298 : Cond.code yX11_back cX11_back 2 (some .int) ∈ gd := gd_mem 1298 (by decide +kernel) (by decide +kernel)
set_option maxRecDepth 20000 in
theorem m1303 : Cond.methodLink RL 176 yX11_about ∈ gd := gd_mem 1303 (by decide +kernel) (by decide +kernel)
set_option maxRecDepth 20000 in
theorem m1304 : Cond.instanceMethod yX11_about ∈ gd := gd_mem 1304 (by decide +kernel) (by decide +kernel)
set_option maxRecDepth 20000 in
theorem m1305 : Cond.selects RX11 yX11_about yX11_about ∈ gd := gd_mem 1305 (by decide +kernel) (by decide +kernel)
set_option maxRecDepth 20000 in
theorem m1306 : Cond.code yX11_about cX11_about 2 (some .int) ∈ gd := gd_mem 1306 (by decide +kernel) (by decide +kernel)
set_option maxRecDepth 20000 in
theorem m1308 : Cond.classLink RL 10 RX12 ∈ gd := gd_mem 1308 (by decide +kernel) (by decide +kernel)
set_option maxRecDepth 20000 in
theorem m1309 : Cond.instantiable RX12 89 ∈ gd := gd_mem 1309 (by decide +kernel) (by decide +kernel)
set_option maxRecDepth 20000 in
theorem m1310 : Cond.methodLink RL 12 yX12_init ∈ gd := gd_mem 1310 (by decide +kernel) (by decide +kernel)
set_option maxRecDepth 20000 in
theorem m1311 : Cond.instanceMethod yX12_init ∈ gd := gd_mem 1311 (by decide +kernel) (by decide +kernel)
set_option maxRecDepth 20000 in
theorem m1312 : Cond.code yX12_init cX12_init 1 none ∈ gd := gd_mem 1312 (by decide +kernel) (by decide +kernel)
set_option maxRecDepth 20000 in
theorem m1582 : Cond.methodLink RL 17 yX12_feed ∈ gd := gd_mem 1582 (by decide +kernel) (by decide +kernel)
set_option maxRecDepth 20000 in
theorem m1583 : Cond.instanceMethod yX12_feed ∈ gd := gd_mem 1583 (by decide +kernel) (by decide +kernel)
set_option maxRecDepth 20000 in
theorem m1584 : Cond.selects RX12 yX12_feed yX12_feed ∈ gd := gd_mem 1584 (by decide +kernel) (by decide +kernel)
set_option maxRecDepth 20000 in
theorem m1585 : Cond.code yX12_feed cX12_feed 6 (some .int) ∈ gd := gd_mem 1585 (by decide +kernel) (by decide +kernel)
set_option maxRecDepth 20000 in
theorem m1590 : Cond.methodLink RL 22 yX12_end ∈ gd := gd_mem 1590 (by decide +kernel) (by decide +kernel)
set_option maxRecDepth 20000 in
theorem m1591 : Cond.instanceMethod yX12_end ∈ gd := gd_mem 1591 (by decide +kernel) (by decide +kernel)
set_option maxRecDepth 20000 in
theorem m1592 : Cond.selects RX12 yX12_end yX12_end ∈ gd := gd_mem 1592 (by decide +kernel) (by decide +kernel)
set_option maxRecDepth 20000 in
theorem m1593 : Cond.code yX12_end cX12_end 2 (some .int) ∈ gd := gd_mem 1593 (by decide +kernel) (by decide +kernel)
set_option maxRecDepth 20000 in
theorem m1594 : Cond.methodLink RL 27 yX12_pavement ∈ gd := gd_mem 1594 (by decide +kernel) (by decide +kernel)
set_option maxRecDepth 20000 in
theorem m1595 : Cond.instanceMethod yX12_pavement ∈ gd := gd_mem 1595 (by decide +kernel) (by decide +kernel)
set_option maxRecDepth 20000 in
theorem m1596 : Cond.selects RX12 yX12_pavement yX12_pavement ∈ gd := gd_mem 1596 (by decide +kernel) (by decide +kernel)
set_option maxRecDepth 20000 in
theorem m1597 : Cond.code yX12_pavement cX12_pavement 3 (some .int) ∈ gd := gd_mem 1597 (by decide +kernel) (by decide +kernel)
set_option maxRecDepth 20000 in
theorem m1769 : Cond.methodLink RL 31 yX12_fault ∈ gd := gd_mem 1769 (by decide +kernel) (by decide +kernel)
set_option maxRecDepth 20000 in
theorem m1770 : Cond.instanceMethod yX12_fault ∈ gd := gd_mem 1770 (by decide +kernel) (by decide +kernel)
set_option maxRecDepth 20000 in
theorem m1771 : Cond.selects RX12 yX12_fault yX12_fault ∈ gd := gd_mem 1771 (by decide +kernel) (by decide +kernel)
set_option maxRecDepth 20000 in
theorem m1772 : Cond.code yX12_fault cX12_fault 2 (some .int) ∈ gd := gd_mem 1772 (by decide +kernel) (by decide +kernel)
set_option maxRecDepth 20000 in
theorem m1773 : Cond.methodLink RL 36 yX12_inch ∈ gd := gd_mem 1773 (by decide +kernel) (by decide +kernel)
set_option maxRecDepth 20000 in
theorem m1774 : Cond.instanceMethod yX12_inch ∈ gd := gd_mem 1774 (by decide +kernel) (by decide +kernel)
set_option maxRecDepth 20000 in
theorem m1775 : Cond.selects RX12 yX12_inch yX12_inch ∈ gd := gd_mem 1775 (by decide +kernel) (by decide +kernel)
set_option maxRecDepth 20000 in
theorem m1776 : Cond.code yX12_inch cX12_inch 5 (some .int) ∈ gd := gd_mem 1776 (by decide +kernel) (by decide +kernel)
set_option maxRecDepth 20000 in
theorem m1791 : Cond.methodLink RL 40 yX12_length ∈ gd := gd_mem 1791 (by decide +kernel) (by decide +kernel)
set_option maxRecDepth 20000 in
theorem m1792 : Cond.instanceMethod yX12_length ∈ gd := gd_mem 1792 (by decide +kernel) (by decide +kernel)
set_option maxRecDepth 20000 in
theorem m1793 : Cond.selects RX12 yX12_length yX12_length ∈ gd := gd_mem 1793 (by decide +kernel) (by decide +kernel)
set_option maxRecDepth 20000 in
theorem m1794 : Cond.code yX12_length cX12_length 2 (some .int) ∈ gd := gd_mem 1794 (by decide +kernel) (by decide +kernel)
set_option maxRecDepth 20000 in
theorem m1795 : Cond.methodLink RL 44 yX12_line ∈ gd := gd_mem 1795 (by decide +kernel) (by decide +kernel)
set_option maxRecDepth 20000 in
theorem m1796 : Cond.instanceMethod yX12_line ∈ gd := gd_mem 1796 (by decide +kernel) (by decide +kernel)
set_option maxRecDepth 20000 in
theorem m1797 : Cond.selects RX12 yX12_line yX12_line ∈ gd := gd_mem 1797 (by decide +kernel) (by decide +kernel)
set_option maxRecDepth 20000 in
theorem m1798 : Cond.code yX12_line cX12_line 4 (some .int) ∈ gd := gd_mem 1798 (by decide +kernel) (by decide +kernel)
set_option maxRecDepth 20000 in
theorem m1818 : Cond.methodLink RL 48 yX12_gap ∈ gd := gd_mem 1818 (by decide +kernel) (by decide +kernel)
set_option maxRecDepth 20000 in
theorem m1819 : Cond.instanceMethod yX12_gap ∈ gd := gd_mem 1819 (by decide +kernel) (by decide +kernel)
set_option maxRecDepth 20000 in
theorem m1820 : Cond.selects RX12 yX12_gap yX12_gap ∈ gd := gd_mem 1820 (by decide +kernel) (by decide +kernel)
set_option maxRecDepth 20000 in
theorem m1821 : Cond.code yX12_gap cX12_gap 10 (some .int) ∈ gd := gd_mem 1821 (by decide +kernel) (by decide +kernel)
set_option maxRecDepth 20000 in
theorem m1822 : Cond.methodLink RL 53 yX12_foot ∈ gd := gd_mem 1822 (by decide +kernel) (by decide +kernel)
set_option maxRecDepth 20000 in
theorem m1823 : Cond.instanceMethod yX12_foot ∈ gd := gd_mem 1823 (by decide +kernel) (by decide +kernel)
set_option maxRecDepth 20000 in
theorem m1824 : Cond.selects RX12 yX12_foot yX12_foot ∈ gd := gd_mem 1824 (by decide +kernel) (by decide +kernel)
set_option maxRecDepth 20000 in
theorem m1825 : Cond.code yX12_foot cX12_foot 5 (some .int) ∈ gd := gd_mem 1825 (by decide +kernel) (by decide +kernel)
set_option maxRecDepth 20000 in
theorem m1842 : Cond.methodLink RL 57 yX12_fewest ∈ gd := gd_mem 1842 (by decide +kernel) (by decide +kernel)
set_option maxRecDepth 20000 in
theorem m1843 : Cond.instanceMethod yX12_fewest ∈ gd := gd_mem 1843 (by decide +kernel) (by decide +kernel)
set_option maxRecDepth 20000 in
theorem m1844 : Cond.selects RX12 yX12_fewest yX12_fewest ∈ gd := gd_mem 1844 (by decide +kernel) (by decide +kernel)
set_option maxRecDepth 20000 in
theorem m1845 : Cond.code yX12_fewest cX12_fewest 11 (some .int) ∈ gd := gd_mem 1845 (by decide +kernel) (by decide +kernel)
set_option maxRecDepth 20000 in
theorem m1870 : Cond.methodLink RL 62 yX12_ways ∈ gd := gd_mem 1870 (by decide +kernel) (by decide +kernel)
set_option maxRecDepth 20000 in
theorem m1871 : Cond.instanceMethod yX12_ways ∈ gd := gd_mem 1871 (by decide +kernel) (by decide +kernel)
set_option maxRecDepth 20000 in
theorem m1872 : Cond.selects RX12 yX12_ways yX12_ways ∈ gd := gd_mem 1872 (by decide +kernel) (by decide +kernel)
set_option maxRecDepth 20000 in
theorem m1873 : Cond.code yX12_ways cX12_ways 8 (some .long) ∈ gd := gd_mem 1873 (by decide +kernel) (by decide +kernel)
set_option maxRecDepth 20000 in
theorem m1883 : Cond.methodLink RL 66 yX12_evenest ∈ gd := gd_mem 1883 (by decide +kernel) (by decide +kernel)
set_option maxRecDepth 20000 in
theorem m1884 : Cond.instanceMethod yX12_evenest ∈ gd := gd_mem 1884 (by decide +kernel) (by decide +kernel)
set_option maxRecDepth 20000 in
theorem m1885 : Cond.selects RX12 yX12_evenest yX12_evenest ∈ gd := gd_mem 1885 (by decide +kernel) (by decide +kernel)
set_option maxRecDepth 20000 in
theorem m1886 : Cond.code yX12_evenest cX12_evenest 7 (some .int) ∈ gd := gd_mem 1886 (by decide +kernel) (by decide +kernel)
set_option maxRecDepth 20000 in
theorem m1891 : Cond.methodLink RL 70 yX12_even ∈ gd := gd_mem 1891 (by decide +kernel) (by decide +kernel)
set_option maxRecDepth 20000 in
theorem m1892 : Cond.instanceMethod yX12_even ∈ gd := gd_mem 1892 (by decide +kernel) (by decide +kernel)
set_option maxRecDepth 20000 in
theorem m1893 : Cond.selects RX12 yX12_even yX12_even ∈ gd := gd_mem 1893 (by decide +kernel) (by decide +kernel)
set_option maxRecDepth 20000 in
theorem m1894 : Cond.code yX12_even cX12_even 8 (some .int) ∈ gd := gd_mem 1894 (by decide +kernel) (by decide +kernel)
set_option maxRecDepth 20000 in
theorem m1895 : Cond.methodLink RL 74 yX12_evens ∈ gd := gd_mem 1895 (by decide +kernel) (by decide +kernel)
set_option maxRecDepth 20000 in
theorem m1896 : Cond.instanceMethod yX12_evens ∈ gd := gd_mem 1896 (by decide +kernel) (by decide +kernel)
set_option maxRecDepth 20000 in
theorem m1897 : Cond.selects RX12 yX12_evens yX12_evens ∈ gd := gd_mem 1897 (by decide +kernel) (by decide +kernel)
set_option maxRecDepth 20000 in
theorem m1898 : Cond.code yX12_evens cX12_evens 7 (some .int) ∈ gd := gd_mem 1898 (by decide +kernel) (by decide +kernel)
set_option maxRecDepth 20000 in
theorem m1903 : Cond.methodLink RL 78 yX12_first ∈ gd := gd_mem 1903 (by decide +kernel) (by decide +kernel)
set_option maxRecDepth 20000 in
theorem m1904 : Cond.instanceMethod yX12_first ∈ gd := gd_mem 1904 (by decide +kernel) (by decide +kernel)
set_option maxRecDepth 20000 in
theorem m1905 : Cond.selects RX12 yX12_first yX12_first ∈ gd := gd_mem 1905 (by decide +kernel) (by decide +kernel)
set_option maxRecDepth 20000 in
theorem m1906 : Cond.code yX12_first cX12_first 6 (some .int) ∈ gd := gd_mem 1906 (by decide +kernel) (by decide +kernel)
set_option maxRecDepth 20000 in
theorem m1916 : Cond.methodLink RL 82 yX12_begin ∈ gd := gd_mem 1916 (by decide +kernel) (by decide +kernel)
set_option maxRecDepth 20000 in
theorem m1917 : Cond.instanceMethod yX12_begin ∈ gd := gd_mem 1917 (by decide +kernel) (by decide +kernel)
set_option maxRecDepth 20000 in
theorem m1918 : Cond.selects RX12 yX12_begin yX12_begin ∈ gd := gd_mem 1918 (by decide +kernel) (by decide +kernel)
set_option maxRecDepth 20000 in
theorem m1919 : Cond.code yX12_begin cX12_begin 5 (some .int) ∈ gd := gd_mem 1919 (by decide +kernel) (by decide +kernel)
set_option maxRecDepth 20000 in
theorem m1923 : Cond.methodLink RL 87 yX12_suits ∈ gd := gd_mem 1923 (by decide +kernel) (by decide +kernel)
set_option maxRecDepth 20000 in
theorem m1924 : Cond.instanceMethod yX12_suits ∈ gd := gd_mem 1924 (by decide +kernel) (by decide +kernel)
set_option maxRecDepth 20000 in
theorem m1925 : Cond.selects RX12 yX12_suits yX12_suits ∈ gd := gd_mem 1925 (by decide +kernel) (by decide +kernel)
set_option maxRecDepth 20000 in
theorem m1926 : Cond.code yX12_suits cX12_suits 9 (some .long) ∈ gd := gd_mem 1926 (by decide +kernel) (by decide +kernel)
set_option maxRecDepth 20000 in
theorem m1927 : Cond.methodLink RL 91 yX12_keeps ∈ gd := gd_mem 1927 (by decide +kernel) (by decide +kernel)
set_option maxRecDepth 20000 in
theorem m1928 : Cond.instanceMethod yX12_keeps ∈ gd := gd_mem 1928 (by decide +kernel) (by decide +kernel)
set_option maxRecDepth 20000 in
theorem m1929 : Cond.selects RX12 yX12_keeps yX12_keeps ∈ gd := gd_mem 1929 (by decide +kernel) (by decide +kernel)
set_option maxRecDepth 20000 in
theorem m1930 : Cond.code yX12_keeps cX12_keeps 7 (some .int) ∈ gd := gd_mem 1930 (by decide +kernel) (by decide +kernel)
set_option maxRecDepth 20000 in
theorem m1939 : Cond.methodLink RL 95 yX12_brave ∈ gd := gd_mem 1939 (by decide +kernel) (by decide +kernel)
set_option maxRecDepth 20000 in
theorem m1940 : Cond.instanceMethod yX12_brave ∈ gd := gd_mem 1940 (by decide +kernel) (by decide +kernel)
set_option maxRecDepth 20000 in
theorem m1941 : Cond.selects RX12 yX12_brave yX12_brave ∈ gd := gd_mem 1941 (by decide +kernel) (by decide +kernel)
set_option maxRecDepth 20000 in
theorem m1942 : Cond.code yX12_brave cX12_brave 6 (some .long) ∈ gd := gd_mem 1942 (by decide +kernel) (by decide +kernel)
set_option maxRecDepth 20000 in
theorem m1963 : Cond.methodLink RL 99 yX12_boldest ∈ gd := gd_mem 1963 (by decide +kernel) (by decide +kernel)
set_option maxRecDepth 20000 in
theorem m1964 : Cond.instanceMethod yX12_boldest ∈ gd := gd_mem 1964 (by decide +kernel) (by decide +kernel)
set_option maxRecDepth 20000 in
theorem m1965 : Cond.selects RX12 yX12_boldest yX12_boldest ∈ gd := gd_mem 1965 (by decide +kernel) (by decide +kernel)
set_option maxRecDepth 20000 in
theorem m1966 : Cond.code yX12_boldest cX12_boldest 9 (some .int) ∈ gd := gd_mem 1966 (by decide +kernel) (by decide +kernel)
set_option maxRecDepth 20000 in
theorem m1967 : Cond.methodLink RL 103 yX12_wager ∈ gd := gd_mem 1967 (by decide +kernel) (by decide +kernel)
set_option maxRecDepth 20000 in
theorem m1968 : Cond.instanceMethod yX12_wager ∈ gd := gd_mem 1968 (by decide +kernel) (by decide +kernel)
set_option maxRecDepth 20000 in
theorem m1969 : Cond.selects RX12 yX12_wager yX12_wager ∈ gd := gd_mem 1969 (by decide +kernel) (by decide +kernel)
set_option maxRecDepth 20000 in
theorem m1970 : Cond.code yX12_wager cX12_wager 6 (some .int) ∈ gd := gd_mem 1970 (by decide +kernel) (by decide +kernel)
set_option maxRecDepth 20000 in
theorem m1983 : Cond.methodLink RL 108 yX12_leave ∈ gd := gd_mem 1983 (by decide +kernel) (by decide +kernel)
set_option maxRecDepth 20000 in
theorem m1984 : Cond.instanceMethod yX12_leave ∈ gd := gd_mem 1984 (by decide +kernel) (by decide +kernel)
set_option maxRecDepth 20000 in
theorem m1985 : Cond.selects RX12 yX12_leave yX12_leave ∈ gd := gd_mem 1985 (by decide +kernel) (by decide +kernel)
set_option maxRecDepth 20000 in
theorem m1986 : Cond.code yX12_leave cX12_leave 5 (some .int) ∈ gd := gd_mem 1986 (by decide +kernel) (by decide +kernel)
set_option maxRecDepth 20000 in
theorem m1987 : Cond.methodLink RL 112 yX12_walk ∈ gd := gd_mem 1987 (by decide +kernel) (by decide +kernel)
set_option maxRecDepth 20000 in
theorem m1988 : Cond.instanceMethod yX12_walk ∈ gd := gd_mem 1988 (by decide +kernel) (by decide +kernel)
set_option maxRecDepth 20000 in
theorem m1989 : Cond.selects RX12 yX12_walk yX12_walk ∈ gd := gd_mem 1989 (by decide +kernel) (by decide +kernel)
set_option maxRecDepth 20000 in
theorem m1990 : Cond.code yX12_walk cX12_walk 4 (some .int) ∈ gd := gd_mem 1990 (by decide +kernel) (by decide +kernel)
set_option maxRecDepth 20000 in
theorem m1999 : Cond.methodLink RL 116 yX12_go ∈ gd := gd_mem 1999 (by decide +kernel) (by decide +kernel)
set_option maxRecDepth 20000 in
theorem m2000 : Cond.instanceMethod yX12_go ∈ gd := gd_mem 2000 (by decide +kernel) (by decide +kernel)
set_option maxRecDepth 20000 in
theorem m2001 : Cond.selects RX12 yX12_go yX12_go ∈ gd := gd_mem 2001 (by decide +kernel) (by decide +kernel)
set_option maxRecDepth 20000 in
theorem m2002 : Cond.code yX12_go cX12_go 5 (some .int) ∈ gd := gd_mem 2002 (by decide +kernel) (by decide +kernel)
set_option maxRecDepth 20000 in
theorem m2003 : Cond.methodLink RL 120 yX12_force ∈ gd := gd_mem 2003 (by decide +kernel) (by decide +kernel)
set_option maxRecDepth 20000 in
theorem m2004 : Cond.instanceMethod yX12_force ∈ gd := gd_mem 2004 (by decide +kernel) (by decide +kernel)
set_option maxRecDepth 20000 in
theorem m2005 : Cond.selects RX12 yX12_force yX12_force ∈ gd := gd_mem 2005 (by decide +kernel) (by decide +kernel)
set_option maxRecDepth 20000 in
theorem m2006 : Cond.code yX12_force cX12_force 2 (some .int) ∈ gd := gd_mem 2006 (by decide +kernel) (by decide +kernel)
set_option maxRecDepth 20000 in
theorem m2011 : Cond.methodLink RL 125 yX12_rain ∈ gd := gd_mem 2011 (by decide +kernel) (by decide +kernel)
set_option maxRecDepth 20000 in
theorem m2012 : Cond.instanceMethod yX12_rain ∈ gd := gd_mem 2012 (by decide +kernel) (by decide +kernel)
set_option maxRecDepth 20000 in
theorem m2013 : Cond.selects RX12 yX12_rain yX12_rain ∈ gd := gd_mem 2013 (by decide +kernel) (by decide +kernel)
set_option maxRecDepth 20000 in
theorem m2014 : Cond.code yX12_rain cX12_rain 1 (some .boolean) ∈ gd := gd_mem 2014 (by decide +kernel) (by decide +kernel)
set_option maxRecDepth 20000 in
theorem m2015 : Cond.methodLink RL 129 yX12_day ∈ gd := gd_mem 2015 (by decide +kernel) (by decide +kernel)
set_option maxRecDepth 20000 in
theorem m2016 : Cond.instanceMethod yX12_day ∈ gd := gd_mem 2016 (by decide +kernel) (by decide +kernel)
set_option maxRecDepth 20000 in
theorem m2017 : Cond.selects RX12 yX12_day yX12_day ∈ gd := gd_mem 2017 (by decide +kernel) (by decide +kernel)
set_option maxRecDepth 20000 in
theorem m2018 : Cond.code yX12_day cX12_day 1 (some .int) ∈ gd := gd_mem 2018 (by decide +kernel) (by decide +kernel)
set_option maxRecDepth 20000 in
theorem m2019 : Cond.methodLink RL 133 yX12_undo ∈ gd := gd_mem 2019 (by decide +kernel) (by decide +kernel)
set_option maxRecDepth 20000 in
theorem m2020 : Cond.instanceMethod yX12_undo ∈ gd := gd_mem 2020 (by decide +kernel) (by decide +kernel)
set_option maxRecDepth 20000 in
theorem m2021 : Cond.selects RX12 yX12_undo yX12_undo ∈ gd := gd_mem 2021 (by decide +kernel) (by decide +kernel)
set_option maxRecDepth 20000 in
theorem m2022 : Cond.code yX12_undo cX12_undo 1 (some .boolean) ∈ gd := gd_mem 2022 (by decide +kernel) (by decide +kernel)
set_option maxRecDepth 20000 in
theorem m2027 : Cond.methodLink RL 137 yX12_redo ∈ gd := gd_mem 2027 (by decide +kernel) (by decide +kernel)
set_option maxRecDepth 20000 in
theorem m2028 : Cond.instanceMethod yX12_redo ∈ gd := gd_mem 2028 (by decide +kernel) (by decide +kernel)
set_option maxRecDepth 20000 in
theorem m2029 : Cond.selects RX12 yX12_redo yX12_redo ∈ gd := gd_mem 2029 (by decide +kernel) (by decide +kernel)
set_option maxRecDepth 20000 in
theorem m2030 : Cond.code yX12_redo cX12_redo 1 (some .boolean) ∈ gd := gd_mem 2030 (by decide +kernel) (by decide +kernel)
set_option maxRecDepth 20000 in
theorem m2031 : Cond.methodLink RL 141 yX12_walker ∈ gd := gd_mem 2031 (by decide +kernel) (by decide +kernel)
set_option maxRecDepth 20000 in
theorem m2032 : Cond.instanceMethod yX12_walker ∈ gd := gd_mem 2032 (by decide +kernel) (by decide +kernel)
set_option maxRecDepth 20000 in
theorem m2033 : Cond.selects RX12 yX12_walker yX12_walker ∈ gd := gd_mem 2033 (by decide +kernel) (by decide +kernel)
set_option maxRecDepth 20000 in
theorem m2034 : Cond.code yX12_walker cX12_walker 2 (some .int) ∈ gd := gd_mem 2034 (by decide +kernel) (by decide +kernel)
set_option maxRecDepth 20000 in
theorem m2035 : Cond.methodLink RL 145 yX12_lies ∈ gd := gd_mem 2035 (by decide +kernel) (by decide +kernel)
set_option maxRecDepth 20000 in
theorem m2036 : Cond.instanceMethod yX12_lies ∈ gd := gd_mem 2036 (by decide +kernel) (by decide +kernel)
set_option maxRecDepth 20000 in
theorem m2037 : Cond.selects RX12 yX12_lies yX12_lies ∈ gd := gd_mem 2037 (by decide +kernel) (by decide +kernel)
set_option maxRecDepth 20000 in
theorem m2038 : Cond.code yX12_lies cX12_lies 2 (some .int) ∈ gd := gd_mem 2038 (by decide +kernel) (by decide +kernel)
set_option maxRecDepth 20000 in
theorem m2039 : Cond.methodLink RL 149 yX12_sight ∈ gd := gd_mem 2039 (by decide +kernel) (by decide +kernel)
set_option maxRecDepth 20000 in
theorem m2040 : Cond.instanceMethod yX12_sight ∈ gd := gd_mem 2040 (by decide +kernel) (by decide +kernel)
set_option maxRecDepth 20000 in
theorem m2041 : Cond.selects RX12 yX12_sight yX12_sight ∈ gd := gd_mem 2041 (by decide +kernel) (by decide +kernel)
set_option maxRecDepth 20000 in
theorem m2042 : Cond.code yX12_sight cX12_sight 4 (some .int) ∈ gd := gd_mem 2042 (by decide +kernel) (by decide +kernel)
set_option maxRecDepth 20000 in
theorem m2043 : Cond.methodLink RL 154 yX12_untell ∈ gd := gd_mem 2043 (by decide +kernel) (by decide +kernel)
set_option maxRecDepth 20000 in
theorem m2044 : Cond.instanceMethod yX12_untell ∈ gd := gd_mem 2044 (by decide +kernel) (by decide +kernel)
set_option maxRecDepth 20000 in
theorem m2045 : Cond.selects RX12 yX12_untell yX12_untell ∈ gd := gd_mem 2045 (by decide +kernel) (by decide +kernel)
set_option maxRecDepth 20000 in
theorem m2046 : Cond.code yX12_untell cX12_untell 2 (some .boolean) ∈ gd := gd_mem 2046 (by decide +kernel) (by decide +kernel)
set_option maxRecDepth 20000 in
theorem m2047 : Cond.methodLink RL 158 yX12_later ∈ gd := gd_mem 2047 (by decide +kernel) (by decide +kernel)
set_option maxRecDepth 20000 in
theorem m2048 : Cond.instanceMethod yX12_later ∈ gd := gd_mem 2048 (by decide +kernel) (by decide +kernel)
set_option maxRecDepth 20000 in
theorem m2049 : Cond.selects RX12 yX12_later yX12_later ∈ gd := gd_mem 2049 (by decide +kernel) (by decide +kernel)
set_option maxRecDepth 20000 in
theorem m2050 : Cond.code yX12_later cX12_later 2 (some .int) ∈ gd := gd_mem 2050 (by decide +kernel) (by decide +kernel)
set_option maxRecDepth 20000 in
theorem m2051 : Cond.methodLink RL 162 yX12_fits ∈ gd := gd_mem 2051 (by decide +kernel) (by decide +kernel)
set_option maxRecDepth 20000 in
theorem m2052 : Cond.instanceMethod yX12_fits ∈ gd := gd_mem 2052 (by decide +kernel) (by decide +kernel)
set_option maxRecDepth 20000 in
theorem m2053 : Cond.selects RX12 yX12_fits yX12_fits ∈ gd := gd_mem 2053 (by decide +kernel) (by decide +kernel)
set_option maxRecDepth 20000 in
theorem m2054 : Cond.code yX12_fits cX12_fits 6 (some .int) ∈ gd := gd_mem 2054 (by decide +kernel) (by decide +kernel)
set_option maxRecDepth 20000 in
theorem m2059 : Cond.methodLink RL 167 yX12_chance ∈ gd := gd_mem 2059 (by decide +kernel) (by decide +kernel)
set_option maxRecDepth 20000 in
theorem m2060 : Cond.instanceMethod yX12_chance ∈ gd := gd_mem 2060 (by decide +kernel) (by decide +kernel)
set_option maxRecDepth 20000 in
theorem m2061 : Cond.selects RX12 yX12_chance yX12_chance ∈ gd := gd_mem 2061 (by decide +kernel) (by decide +kernel)
set_option maxRecDepth 20000 in
theorem m2062 : Cond.code yX12_chance cX12_chance 12 (some .long) ∈ gd := gd_mem 2062 (by decide +kernel) (by decide +kernel)
set_option maxRecDepth 20000 in
theorem m2066 : Cond.methodLink RL 171 yX12_image ∈ gd := gd_mem 2066 (by decide +kernel) (by decide +kernel)
set_option maxRecDepth 20000 in
theorem m2067 : Cond.instanceMethod yX12_image ∈ gd := gd_mem 2067 (by decide +kernel) (by decide +kernel)
set_option maxRecDepth 20000 in
theorem m2068 : Cond.selects RX12 yX12_image yX12_image ∈ gd := gd_mem 2068 (by decide +kernel) (by decide +kernel)
set_option maxRecDepth 20000 in
theorem m2069 : Cond.code yX12_image cX12_image 3 (some .int) ∈ gd := gd_mem 2069 (by decide +kernel) (by decide +kernel)
set_option maxRecDepth 20000 in
theorem m2073 : Cond.methodLink RL 175 yX12_back ∈ gd := gd_mem 2073 (by decide +kernel) (by decide +kernel)
set_option maxRecDepth 20000 in
theorem m2074 : Cond.instanceMethod yX12_back ∈ gd := gd_mem 2074 (by decide +kernel) (by decide +kernel)
set_option maxRecDepth 20000 in
theorem m2075 : Cond.selects RX12 yX12_back yX12_back ∈ gd := gd_mem 2075 (by decide +kernel) (by decide +kernel)
set_option maxRecDepth 20000 in
theorem m2076 : Cond.code yX12_back cX12_back 3 (some .int) ∈ gd := gd_mem 2076 (by decide +kernel) (by decide +kernel)
set_option maxRecDepth 20000 in
theorem m2077 : Cond.methodLink RL 179 yX12_about ∈ gd := gd_mem 2077 (by decide +kernel) (by decide +kernel)
set_option maxRecDepth 20000 in
theorem m2078 : Cond.instanceMethod yX12_about ∈ gd := gd_mem 2078 (by decide +kernel) (by decide +kernel)
set_option maxRecDepth 20000 in
theorem m2079 : Cond.selects RX12 yX12_about yX12_about ∈ gd := gd_mem 2079 (by decide +kernel) (by decide +kernel)
set_option maxRecDepth 20000 in
theorem m2080 : Cond.code yX12_about cX12_about 2 (some .int) ∈ gd := gd_mem 2080 (by decide +kernel) (by decide +kernel)
