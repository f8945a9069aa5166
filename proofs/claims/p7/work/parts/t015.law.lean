theorem m1087 : Cond.methodLink RL 88 yX11_keeps ∈ gd := gd_mem 1087 (by decide +kernel) (by decide +kernel)
theorem m1088 : Cond.instanceMethod yX11_keeps ∈ gd := gd_mem 1088 (by decide +kernel) (by decide +kernel)
theorem m1089 : Cond.selects RX11 yX11_keeps yX11_keeps ∈ gd := gd_mem 1089 (by decide +kernel) (by decide +kernel)
theorem m1090 : Cond.code yX11_keeps cX11_keeps 4 (some .int) ∈ gd := gd_mem 1090 (by decide +kernel) (by decide +kernel)
theorem m1113 : Cond.methodLink RL 92 yX11_brave ∈ gd := gd_mem 1113 (by decide +kernel) (by decide +kernel)
theorem m1114 : Cond.instanceMethod yX11_brave ∈ gd := gd_mem 1114 (by decide +kernel) (by decide +kernel)
theorem m1115 : Cond.selects RX11 yX11_brave yX11_brave ∈ gd := gd_mem 1115 (by decide +kernel) (by decide +kernel)
theorem m1116 : Cond.code yX11_brave cX11_brave 6 (some .long) ∈ gd := gd_mem 1116 (by decide +kernel) (by decide +kernel)
theorem m1134 : Cond.methodLink RL 96 yX11_boldest ∈ gd := gd_mem 1134 (by decide +kernel) (by decide +kernel)
theorem m1135 : Cond.instanceMethod yX11_boldest ∈ gd := gd_mem 1135 (by decide +kernel) (by decide +kernel)
theorem m1136 : Cond.selects RX11 yX11_boldest yX11_boldest ∈ gd := gd_mem 1136 (by decide +kernel) (by decide +kernel)
theorem m1137 : Cond.code yX11_boldest cX11_boldest 6 (some .int) ∈ gd := gd_mem 1137 (by decide +kernel) (by decide +kernel)
theorem m1927 : Cond.methodLink RL 91 yX12_keeps ∈ gd := gd_mem 1927 (by decide +kernel) (by decide +kernel)
theorem m1928 : Cond.instanceMethod yX12_keeps ∈ gd := gd_mem 1928 (by decide +kernel) (by decide +kernel)
theorem m1929 : Cond.selects RX12 yX12_keeps yX12_keeps ∈ gd := gd_mem 1929 (by decide +kernel) (by decide +kernel)
theorem m1930 : Cond.code yX12_keeps cX12_keeps 7 (some .int) ∈ gd := gd_mem 1930 (by decide +kernel) (by decide +kernel)
theorem m1939 : Cond.methodLink RL 95 yX12_brave ∈ gd := gd_mem 1939 (by decide +kernel) (by decide +kernel)
theorem m1940 : Cond.instanceMethod yX12_brave ∈ gd := gd_mem 1940 (by decide +kernel) (by decide +kernel)
theorem m1941 : Cond.selects RX12 yX12_brave yX12_brave ∈ gd := gd_mem 1941 (by decide +kernel) (by decide +kernel)
theorem m1942 : Cond.code yX12_brave cX12_brave 6 (some .long) ∈ gd := gd_mem 1942 (by decide +kernel) (by decide +kernel)
theorem m1963 : Cond.methodLink RL 99 yX12_boldest ∈ gd := gd_mem 1963 (by decide +kernel) (by decide +kernel)
theorem m1964 : Cond.instanceMethod yX12_boldest ∈ gd := gd_mem 1964 (by decide +kernel) (by decide +kernel)
theorem m1965 : Cond.selects RX12 yX12_boldest yX12_boldest ∈ gd := gd_mem 1965 (by decide +kernel) (by decide +kernel)
theorem m1966 : Cond.code yX12_boldest cX12_boldest 9 (some .int) ∈ gd := gd_mem 1966 (by decide +kernel) (by decide +kernel)
theorem dL_law_975 : decode cL_law 975 = .ok (.aload_n 1, 1) := by decide +kernel
theorem dL_law_976 : decode cL_law 976 = .ok (.aload_n 0, 1) := by decide +kernel
theorem dL_law_977 : decode cL_law 977 = .ok (.iload_n 3, 1) := by decide +kernel
theorem dL_law_978 : decode cL_law 978 = .ok (.iconst 1, 1) := by decide +kernel
theorem dL_law_979 : decode cL_law 979 = .ok (.iadd, 1) := by decide +kernel
theorem dL_law_980 : decode cL_law 980 = .ok (.iaload, 1) := by decide +kernel
theorem dL_law_981 : decode cL_law 981 = .ok (.aload_n 0, 1) := by decide +kernel
theorem dL_law_982 : decode cL_law 982 = .ok (.iload_n 3, 1) := by decide +kernel
theorem dL_law_983 : decode cL_law 983 = .ok (.iconst 2, 1) := by decide +kernel
theorem dL_law_984 : decode cL_law 984 = .ok (.iadd, 1) := by decide +kernel
theorem dL_law_985 : decode cL_law 985 = .ok (.iaload, 1) := by decide +kernel
theorem dL_law_986 : decode cL_law 986 = .ok (.aload_n 0, 1) := by decide +kernel
theorem dL_law_987 : decode cL_law 987 = .ok (.iload_n 3, 1) := by decide +kernel
theorem dL_law_988 : decode cL_law 988 = .ok (.iconst 3, 1) := by decide +kernel
theorem dL_law_989 : decode cL_law 989 = .ok (.iadd, 1) := by decide +kernel
theorem dL_law_990 : decode cL_law 990 = .ok (.iaload, 1) := by decide +kernel
theorem dL_law_991 : decode cL_law 991 = .ok (.invokevirtual 88, 3) := by decide +kernel
theorem dL_law_994 : decode cL_law 994 = .ok (.pop, 1) := by decide +kernel
theorem dL_law_995 : decode cL_law 995 = .ok (.aload_n 2, 1) := by decide +kernel
theorem dL_law_996 : decode cL_law 996 = .ok (.aload_n 0, 1) := by decide +kernel
theorem dL_law_997 : decode cL_law 997 = .ok (.iload_n 3, 1) := by decide +kernel
theorem dL_law_998 : decode cL_law 998 = .ok (.iconst 1, 1) := by decide +kernel
theorem dL_law_999 : decode cL_law 999 = .ok (.iadd, 1) := by decide +kernel
theorem dL_law_1000 : decode cL_law 1000 = .ok (.iaload, 1) := by decide +kernel
theorem dL_law_1001 : decode cL_law 1001 = .ok (.aload_n 0, 1) := by decide +kernel
theorem dL_law_1002 : decode cL_law 1002 = .ok (.iload_n 3, 1) := by decide +kernel
theorem dL_law_1003 : decode cL_law 1003 = .ok (.iconst 2, 1) := by decide +kernel
theorem dL_law_1004 : decode cL_law 1004 = .ok (.iadd, 1) := by decide +kernel
theorem dL_law_1005 : decode cL_law 1005 = .ok (.iaload, 1) := by decide +kernel
theorem dL_law_1006 : decode cL_law 1006 = .ok (.aload_n 0, 1) := by decide +kernel
theorem dL_law_1007 : decode cL_law 1007 = .ok (.iload_n 3, 1) := by decide +kernel
theorem dL_law_1008 : decode cL_law 1008 = .ok (.iconst 3, 1) := by decide +kernel
theorem dL_law_1009 : decode cL_law 1009 = .ok (.iadd, 1) := by decide +kernel
theorem dL_law_1010 : decode cL_law 1010 = .ok (.iaload, 1) := by decide +kernel
theorem dL_law_1011 : decode cL_law 1011 = .ok (.invokevirtual 91, 3) := by decide +kernel
theorem dL_law_1014 : decode cL_law 1014 = .ok (.pop, 1) := by decide +kernel
theorem dL_law_1015 : decode cL_law 1015 = .ok (.goto 626, 3) := by decide +kernel
theorem dL_law_1018 : decode cL_law 1018 = .ok (.aload_n 1, 1) := by decide +kernel
theorem dL_law_1019 : decode cL_law 1019 = .ok (.aload_n 0, 1) := by decide +kernel
theorem dL_law_1020 : decode cL_law 1020 = .ok (.iload_n 3, 1) := by decide +kernel
theorem dL_law_1021 : decode cL_law 1021 = .ok (.iconst 1, 1) := by decide +kernel
theorem dL_law_1022 : decode cL_law 1022 = .ok (.iadd, 1) := by decide +kernel
theorem dL_law_1023 : decode cL_law 1023 = .ok (.iaload, 1) := by decide +kernel
theorem dL_law_1024 : decode cL_law 1024 = .ok (.aload_n 0, 1) := by decide +kernel
theorem dL_law_1025 : decode cL_law 1025 = .ok (.iload_n 3, 1) := by decide +kernel
theorem dL_law_1026 : decode cL_law 1026 = .ok (.iconst 2, 1) := by decide +kernel
theorem dL_law_1027 : decode cL_law 1027 = .ok (.iadd, 1) := by decide +kernel
theorem dL_law_1028 : decode cL_law 1028 = .ok (.iaload, 1) := by decide +kernel
theorem dL_law_1029 : decode cL_law 1029 = .ok (.aload_n 0, 1) := by decide +kernel
theorem dL_law_1030 : decode cL_law 1030 = .ok (.iload_n 3, 1) := by decide +kernel
theorem dL_law_1031 : decode cL_law 1031 = .ok (.iconst 3, 1) := by decide +kernel
theorem dL_law_1032 : decode cL_law 1032 = .ok (.iadd, 1) := by decide +kernel
theorem dL_law_1033 : decode cL_law 1033 = .ok (.iaload, 1) := by decide +kernel
theorem dL_law_1034 : decode cL_law 1034 = .ok (.aload_n 0, 1) := by decide +kernel
theorem dL_law_1035 : decode cL_law 1035 = .ok (.iload_n 3, 1) := by decide +kernel
theorem dL_law_1036 : decode cL_law 1036 = .ok (.iconst 4, 1) := by decide +kernel
theorem dL_law_1037 : decode cL_law 1037 = .ok (.iadd, 1) := by decide +kernel
theorem dL_law_1038 : decode cL_law 1038 = .ok (.iaload, 1) := by decide +kernel
theorem dL_law_1039 : decode cL_law 1039 = .ok (.aload_n 0, 1) := by decide +kernel
theorem dL_law_1040 : decode cL_law 1040 = .ok (.iload_n 3, 1) := by decide +kernel
theorem dL_law_1041 : decode cL_law 1041 = .ok (.iconst 5, 1) := by decide +kernel
theorem dL_law_1042 : decode cL_law 1042 = .ok (.iadd, 1) := by decide +kernel
theorem dL_law_1043 : decode cL_law 1043 = .ok (.iaload, 1) := by decide +kernel
theorem dL_law_1044 : decode cL_law 1044 = .ok (.invokevirtual 92, 3) := by decide +kernel
theorem dL_law_1047 : decode cL_law 1047 = .ok (.pop2, 1) := by decide +kernel
theorem dL_law_1048 : decode cL_law 1048 = .ok (.aload_n 2, 1) := by decide +kernel
theorem dL_law_1049 : decode cL_law 1049 = .ok (.aload_n 0, 1) := by decide +kernel
theorem dL_law_1050 : decode cL_law 1050 = .ok (.iload_n 3, 1) := by decide +kernel
theorem dL_law_1051 : decode cL_law 1051 = .ok (.iconst 1, 1) := by decide +kernel
theorem dL_law_1052 : decode cL_law 1052 = .ok (.iadd, 1) := by decide +kernel
theorem dL_law_1053 : decode cL_law 1053 = .ok (.iaload, 1) := by decide +kernel
theorem dL_law_1054 : decode cL_law 1054 = .ok (.aload_n 0, 1) := by decide +kernel
theorem dL_law_1055 : decode cL_law 1055 = .ok (.iload_n 3, 1) := by decide +kernel
theorem dL_law_1056 : decode cL_law 1056 = .ok (.iconst 2, 1) := by decide +kernel
theorem dL_law_1057 : decode cL_law 1057 = .ok (.iadd, 1) := by decide +kernel
theorem dL_law_1058 : decode cL_law 1058 = .ok (.iaload, 1) := by decide +kernel
theorem dL_law_1059 : decode cL_law 1059 = .ok (.aload_n 0, 1) := by decide +kernel
theorem dL_law_1060 : decode cL_law 1060 = .ok (.iload_n 3, 1) := by decide +kernel
theorem dL_law_1061 : decode cL_law 1061 = .ok (.iconst 3, 1) := by decide +kernel
theorem dL_law_1062 : decode cL_law 1062 = .ok (.iadd, 1) := by decide +kernel
theorem dL_law_1063 : decode cL_law 1063 = .ok (.iaload, 1) := by decide +kernel
theorem dL_law_1064 : decode cL_law 1064 = .ok (.aload_n 0, 1) := by decide +kernel
theorem dL_law_1065 : decode cL_law 1065 = .ok (.iload_n 3, 1) := by decide +kernel
theorem dL_law_1066 : decode cL_law 1066 = .ok (.iconst 4, 1) := by decide +kernel
theorem dL_law_1067 : decode cL_law 1067 = .ok (.iadd, 1) := by decide +kernel
theorem dL_law_1068 : decode cL_law 1068 = .ok (.iaload, 1) := by decide +kernel
theorem dL_law_1069 : decode cL_law 1069 = .ok (.aload_n 0, 1) := by decide +kernel
theorem dL_law_1070 : decode cL_law 1070 = .ok (.iload_n 3, 1) := by decide +kernel
theorem dL_law_1071 : decode cL_law 1071 = .ok (.iconst 5, 1) := by decide +kernel
theorem dL_law_1072 : decode cL_law 1072 = .ok (.iadd, 1) := by decide +kernel
theorem dL_law_1073 : decode cL_law 1073 = .ok (.iaload, 1) := by decide +kernel
theorem dL_law_1074 : decode cL_law 1074 = .ok (.invokevirtual 95, 3) := by decide +kernel
theorem dL_law_1077 : decode cL_law 1077 = .ok (.pop2, 1) := by decide +kernel
theorem dL_law_1078 : decode cL_law 1078 = .ok (.goto 563, 3) := by decide +kernel
theorem dL_law_1081 : decode cL_law 1081 = .ok (.aload_n 1, 1) := by decide +kernel
theorem dL_law_1082 : decode cL_law 1082 = .ok (.aload_n 0, 1) := by decide +kernel
theorem dL_law_1083 : decode cL_law 1083 = .ok (.iload_n 3, 1) := by decide +kernel
theorem dL_law_1084 : decode cL_law 1084 = .ok (.iconst 1, 1) := by decide +kernel
theorem dL_law_1085 : decode cL_law 1085 = .ok (.iadd, 1) := by decide +kernel
theorem dL_law_1086 : decode cL_law 1086 = .ok (.iaload, 1) := by decide +kernel
theorem dL_law_1087 : decode cL_law 1087 = .ok (.aload_n 0, 1) := by decide +kernel
theorem dL_law_1088 : decode cL_law 1088 = .ok (.iload_n 3, 1) := by decide +kernel
theorem dL_law_1089 : decode cL_law 1089 = .ok (.iconst 2, 1) := by decide +kernel
theorem dL_law_1090 : decode cL_law 1090 = .ok (.iadd, 1) := by decide +kernel
theorem dL_law_1091 : decode cL_law 1091 = .ok (.iaload, 1) := by decide +kernel
theorem dL_law_1092 : decode cL_law 1092 = .ok (.aload_n 0, 1) := by decide +kernel
theorem dL_law_1093 : decode cL_law 1093 = .ok (.iload_n 3, 1) := by decide +kernel
theorem dL_law_1094 : decode cL_law 1094 = .ok (.iconst 3, 1) := by decide +kernel
theorem dL_law_1095 : decode cL_law 1095 = .ok (.iadd, 1) := by decide +kernel
theorem dL_law_1096 : decode cL_law 1096 = .ok (.iaload, 1) := by decide +kernel
theorem dL_law_1097 : decode cL_law 1097 = .ok (.aload_n 0, 1) := by decide +kernel
theorem dL_law_1098 : decode cL_law 1098 = .ok (.iload_n 3, 1) := by decide +kernel
theorem dL_law_1099 : decode cL_law 1099 = .ok (.iconst 4, 1) := by decide +kernel
theorem dL_law_1100 : decode cL_law 1100 = .ok (.iadd, 1) := by decide +kernel
theorem dL_law_1101 : decode cL_law 1101 = .ok (.iaload, 1) := by decide +kernel
theorem dL_law_1102 : decode cL_law 1102 = .ok (.aload_n 0, 1) := by decide +kernel
theorem dL_law_1103 : decode cL_law 1103 = .ok (.iload_n 3, 1) := by decide +kernel
theorem dL_law_1104 : decode cL_law 1104 = .ok (.iconst 5, 1) := by decide +kernel
theorem dL_law_1105 : decode cL_law 1105 = .ok (.iadd, 1) := by decide +kernel
theorem dL_law_1106 : decode cL_law 1106 = .ok (.iaload, 1) := by decide +kernel
theorem dL_law_1107 : decode cL_law 1107 = .ok (.invokevirtual 96, 3) := by decide +kernel
theorem dL_law_1110 : decode cL_law 1110 = .ok (.pop, 1) := by decide +kernel
theorem dL_law_1111 : decode cL_law 1111 = .ok (.aload_n 2, 1) := by decide +kernel
theorem dL_law_1112 : decode cL_law 1112 = .ok (.aload_n 0, 1) := by decide +kernel
theorem dL_law_1113 : decode cL_law 1113 = .ok (.iload_n 3, 1) := by decide +kernel
theorem dL_law_1114 : decode cL_law 1114 = .ok (.iconst 1, 1) := by decide +kernel
theorem dL_law_1115 : decode cL_law 1115 = .ok (.iadd, 1) := by decide +kernel
theorem dL_law_1116 : decode cL_law 1116 = .ok (.iaload, 1) := by decide +kernel
theorem dL_law_1117 : decode cL_law 1117 = .ok (.aload_n 0, 1) := by decide +kernel
theorem dL_law_1118 : decode cL_law 1118 = .ok (.iload_n 3, 1) := by decide +kernel
theorem dL_law_1119 : decode cL_law 1119 = .ok (.iconst 2, 1) := by decide +kernel
theorem dL_law_1120 : decode cL_law 1120 = .ok (.iadd, 1) := by decide +kernel
theorem dL_law_1121 : decode cL_law 1121 = .ok (.iaload, 1) := by decide +kernel
theorem dL_law_1122 : decode cL_law 1122 = .ok (.aload_n 0, 1) := by decide +kernel
theorem dL_law_1123 : decode cL_law 1123 = .ok (.iload_n 3, 1) := by decide +kernel
theorem dL_law_1124 : decode cL_law 1124 = .ok (.iconst 3, 1) := by decide +kernel
theorem dL_law_1125 : decode cL_law 1125 = .ok (.iadd, 1) := by decide +kernel
theorem dL_law_1126 : decode cL_law 1126 = .ok (.iaload, 1) := by decide +kernel
theorem dL_law_1127 : decode cL_law 1127 = .ok (.aload_n 0, 1) := by decide +kernel
theorem dL_law_1128 : decode cL_law 1128 = .ok (.iload_n 3, 1) := by decide +kernel
theorem dL_law_1129 : decode cL_law 1129 = .ok (.iconst 4, 1) := by decide +kernel
theorem dL_law_1130 : decode cL_law 1130 = .ok (.iadd, 1) := by decide +kernel
theorem dL_law_1131 : decode cL_law 1131 = .ok (.iaload, 1) := by decide +kernel
theorem dL_law_1132 : decode cL_law 1132 = .ok (.aload_n 0, 1) := by decide +kernel
theorem dL_law_1133 : decode cL_law 1133 = .ok (.iload_n 3, 1) := by decide +kernel
theorem dL_law_1134 : decode cL_law 1134 = .ok (.iconst 5, 1) := by decide +kernel
theorem dL_law_1135 : decode cL_law 1135 = .ok (.iadd, 1) := by decide +kernel
theorem dL_law_1136 : decode cL_law 1136 = .ok (.iaload, 1) := by decide +kernel
theorem dL_law_1137 : decode cL_law 1137 = .ok (.invokevirtual 99, 3) := by decide +kernel
theorem dL_law_1140 : decode cL_law 1140 = .ok (.pop, 1) := by decide +kernel
theorem dL_law_1141 : decode cL_law 1141 = .ok (.goto 500, 3) := by decide +kernel
set_option maxHeartbeats 4000000 in
set_option maxRecDepth 100000 in
theorem law_17 {p : Program} {l : Launch} {e : Env} {s : State} {m : MethodId} {below : List Frame} {meth : Method} {c : Code} {D : va_G} {k : KT} {A : Nat → Prop} {a : Nat → Nat} {z : SK} {b L : Nat} {xs : Nat → Int32} (hL : L ≤ 3072) (C0 : lw_At p s m meth c b L xs) (hK : cK D k s) (hZ : Sx A z s) (hbA : ¬ A b) {G : GS} {i0 : Int32} (hi0 : 0 ≤ i0.toInt) (hi6 : i0.toInt + 6 ≤ L) (hI : LI G) (hB_G : Bd G) {H : Heap} {locs : List Loc} {ls : Array Slot} (hW : Wd D k A a G H) (hS : va_S A s.heap H locs) (hl : lv_has ls 4 [(0, .ref b), (1, .ref (a 0)), (2, .ref (a 66)), (3, .int i0)]) (K : ∀ (G1 : GS) (H1 : Heap) (locs1 : List Loc) (ls1 : Array Slot), LI G1 → Bd G1 → Wd D k A a G1 H1 → va_S A s.heap H1 locs1 → lv_has ls1 4 [(0, .ref b), (1, .ref (a 0)), (2, .ref (a 66)), (3, .int i0)] → W p l e room_1 s m #[Value.ref b] below meth c H1 locs1 119 46443 (lw_Z below #[Value.ref b] s) (F0 m 1641 ls1 [])) : W p l e room_1 s m #[Value.ref b] below meth c H locs 119 46443 (lw_Z below #[Value.ref b] s) (F0 m 975 ls []) := by
  obtain ⟨hx, hb, hr, hml, hown, hts, hX, hbl, hlocks, hgv⟩ := id C0
  have hown : s.vm.findClass RL = some m.cls := hown
  have hgd : ∀ w ∈ gd, w ∈ lw_tbl := fun w h => (List.mem_filter.mp h).1
  have hg : ∀ w ∈ gd, w.before #[Value.ref b] s = true := fun w h => hts w (hgd w h)
  rcases hI with ⟨hv_0_0, hv_0_1, hv_6_4, hj0, hj1, hj2, hj3, hj4, hj5, hj6, hj7, hj8, hj9, hj10, hj11⟩ | ⟨hv_0_0, hv_0_1, hv_6_4, hj0, hj1, hj2, hj3, hj4, hj5, hj6, hj7, hj8, hj9, hj10, hj11⟩
  · skip
    refine lv_aload_n hx hb dL_law_975 rfl (lv_at hl 1 rfl) ?_
    refine lv_aload_n hx hb dL_law_976 rfl (lv_at hl 0 rfl) ?_
    refine lv_iload_n hx hb dL_law_977 rfl (lv_at hl 3 rfl) ?_
    refine lv_iconst (v := 1) hx hb dL_law_978 (by decide) ?_
    refine lv_iadd hx hb dL_law_979 ?_
    refine lv_topi (fun y_1 ey_1 => ?_)
    have ty_1 : y_1.toInt = i0.toInt + 1 := xI_add rfl rfl ey_1 (by omega) (by omega)
    refine va_sld hx hb hX hbl hbA hS (vin (by omega) (by omega)) dL_law_980 ?_
    refine lv_topi (fun y_2 ey_2 => ?_)
    have u_3 : y_2.toInt = (xs (i0 + 1).toNatClampNeg).toInt := by rw [ey_2, ey_1]
    refine lv_aload_n hx hb dL_law_981 rfl (lv_at hl 0 rfl) ?_
    refine lv_iload_n hx hb dL_law_982 rfl (lv_at hl 3 rfl) ?_
    refine lv_iconst (v := 2) hx hb dL_law_983 (by decide) ?_
    refine lv_iadd hx hb dL_law_984 ?_
    refine lv_topi (fun y_4 ey_4 => ?_)
    have ty_4 : y_4.toInt = i0.toInt + 2 := xI_add rfl rfl ey_4 (by omega) (by omega)
    refine va_sld hx hb hX hbl hbA hS (vin (by omega) (by omega)) dL_law_985 ?_
    refine lv_topi (fun y_5 ey_5 => ?_)
    have u_6 : y_5.toInt = (xs (i0 + 2).toNatClampNeg).toInt := by rw [ey_5, ey_4]
    refine lv_aload_n hx hb dL_law_986 rfl (lv_at hl 0 rfl) ?_
    refine lv_iload_n hx hb dL_law_987 rfl (lv_at hl 3 rfl) ?_
    refine lv_iconst (v := 3) hx hb dL_law_988 (by decide) ?_
    refine lv_iadd hx hb dL_law_989 ?_
    refine lv_topi (fun y_7 ey_7 => ?_)
    have ty_7 : y_7.toInt = i0.toInt + 3 := xI_add rfl rfl ey_7 (by omega) (by omega)
    refine va_sld hx hb hX hbl hbA hS (vin (by omega) (by omega)) dL_law_990 ?_
    refine lv_topi (fun y_8 ey_8 => ?_)
    have u_9 : y_8.toInt = (xs (i0 + 3).toNatClampNeg).toInt := by rw [ey_8, ey_7]
    refine S_calli (va_runV (As := [.int y_2, .int y_5, .int y_8]) (rest := []) ⟨hx, hb, hml, hown, hts⟩ (k_Wkeeps_1 l D k A a z G y_2 y_5 y_8 hv_0_0 hv_0_1 hv_6_4) (cwV 3 hts (gd_V hgd m1087 m1088 m1089 m117 m1090) rfl rfl rfl (by decide +kernel) ⟨Nat.le_of_ble_eq_true rfl, Nat.le_of_ble_eq_true rfl⟩) (pre_V hW hB_G hK hZ hS kd_0 rfl) rfl rfl hl.1 rfl (lv_room (Nat.le_of_ble_eq_true rfl)) dL_law_991 ⟨Nat.le_of_ble_eq_true rfl, Nat.le_of_ble_eq_true rfl⟩) hS (fun r_10 G_11 H locs hpo hW hS => ?_)
    have hX_14 : P_Wkeeps_1 y_2 y_5 y_8 G r_10 G_11 := hpo
    obtain ⟨hB_G_11, hq_12, -⟩ := hpo
    refine lv_pop hx hb dL_law_994 rfl ?_
    refine lv_aload_n hx hb dL_law_995 rfl (lv_at hl 2 rfl) ?_
    refine lv_aload_n hx hb dL_law_996 rfl (lv_at hl 0 rfl) ?_
    refine lv_iload_n hx hb dL_law_997 rfl (lv_at hl 3 rfl) ?_
    refine lv_iconst (v := 1) hx hb dL_law_998 (by decide) ?_
    refine lv_iadd hx hb dL_law_999 ?_
    refine lv_topi (fun y_15 ey_15 => ?_)
    have ty_15 : y_15.toInt = i0.toInt + 1 := xI_add rfl rfl ey_15 (by omega) (by omega)
    refine va_sld hx hb hX hbl hbA hS (vin (by omega) (by omega)) dL_law_1000 ?_
    refine lv_topi (fun y_16 ey_16 => ?_)
    have u_17 : y_16.toInt = (xs (i0 + 1).toNatClampNeg).toInt := by rw [ey_16, ey_15]
    refine lv_aload_n hx hb dL_law_1001 rfl (lv_at hl 0 rfl) ?_
    refine lv_iload_n hx hb dL_law_1002 rfl (lv_at hl 3 rfl) ?_
    refine lv_iconst (v := 2) hx hb dL_law_1003 (by decide) ?_
    refine lv_iadd hx hb dL_law_1004 ?_
    refine lv_topi (fun y_18 ey_18 => ?_)
    have ty_18 : y_18.toInt = i0.toInt + 2 := xI_add rfl rfl ey_18 (by omega) (by omega)
    refine va_sld hx hb hX hbl hbA hS (vin (by omega) (by omega)) dL_law_1005 ?_
    refine lv_topi (fun y_19 ey_19 => ?_)
    have u_20 : y_19.toInt = (xs (i0 + 2).toNatClampNeg).toInt := by rw [ey_19, ey_18]
    refine lv_aload_n hx hb dL_law_1006 rfl (lv_at hl 0 rfl) ?_
    refine lv_iload_n hx hb dL_law_1007 rfl (lv_at hl 3 rfl) ?_
    refine lv_iconst (v := 3) hx hb dL_law_1008 (by decide) ?_
    refine lv_iadd hx hb dL_law_1009 ?_
    refine lv_topi (fun y_21 ey_21 => ?_)
    have ty_21 : y_21.toInt = i0.toInt + 3 := xI_add rfl rfl ey_21 (by omega) (by omega)
    refine va_sld hx hb hX hbl hbA hS (vin (by omega) (by omega)) dL_law_1010 ?_
    refine lv_topi (fun y_22 ey_22 => ?_)
    have u_23 : y_22.toInt = (xs (i0 + 3).toNatClampNeg).toInt := by rw [ey_22, ey_21]
    have g_24 : gP G_11 = gP G := gP_fr (rs := [37, 38, 39, 40, 42, 43, 44, 45, 48, 49, 50, 51]) (fs := [(6, 3), (7, 1), (7, 2), (7, 3), (7, 4), (7, 5), (7, 6), (7, 7), (9, 2), (9, 3), (19, 2), (19, 3)]) (Fr.rf.call hq_12 (by decide) (by decide)) (by decide) (by decide)
    refine S_calli (va_runV (As := [.int y_16, .int y_19, .int y_22]) (rest := []) ⟨hx, hb, hml, hown, hts⟩ (n_keeps l D k A a z G_11 y_16 y_19 y_22 (by omega)) (cwV 3 hts (gd_V hgd m1927 m1928 m1929 m131 m1930) rfl rfl rfl (by decide +kernel) ⟨Nat.le_of_ble_eq_true rfl, Nat.le_of_ble_eq_true rfl⟩) (pre_V hW hB_G_11 hK hZ hS kd_66 rfl) rfl rfl hl.1 rfl (lv_room (Nat.le_of_ble_eq_true rfl)) dL_law_1011 ⟨Nat.le_of_ble_eq_true rfl, Nat.le_of_ble_eq_true rfl⟩) hS (fun r_25 G_26 H locs hpo hW hS => ?_)
    have hX_29 : Q_keeps y_16 y_19 y_22 G_11 r_25 G_26 := hpo
    obtain ⟨hB_G_26, hq_27, -⟩ := hpo
    have u_30 := L_keeps_1 hX_14 hX_29 (by omega) (by omega) (by omega) (by omega)
    refine lv_pop hx hb dL_law_1014 rfl ?_
    refine lv_goto (tgt := 1641) hx hb dL_law_1015 (by decide) ?_
    have g_31 : gO G_26 = gO G := gO_fr (rs := [37, 38, 39, 40, 42, 43, 44, 45, 48, 49, 50, 51, 76, 97, 98, 104, 105]) (fs := [(6, 3), (7, 1), (7, 2), (7, 3), (7, 4), (7, 5), (7, 6), (7, 7), (9, 2), (9, 3), (19, 2), (19, 3), (66, 59), (66, 60), (66, 61), (66, 62), (66, 63)]) ((Fr.rf.call hq_12 (by decide) (by decide)).call hq_27 (by decide) (by decide)) (by decide) (by decide)
    have g_32 : gP G_26 = gP G := gP_fr (rs := [37, 38, 39, 40, 42, 43, 44, 45, 48, 49, 50, 51, 76, 97, 98, 104, 105]) (fs := [(6, 3), (7, 1), (7, 2), (7, 3), (7, 4), (7, 5), (7, 6), (7, 7), (9, 2), (9, 3), (19, 2), (19, 3), (66, 59), (66, 60), (66, 61), (66, 62), (66, 63)]) ((Fr.rf.call hq_12 (by decide) (by decide)).call hq_27 (by decide) (by decide)) (by decide) (by decide)
    have g_33 : gS G_26 = gS G := gS_fr (rs := [37, 38, 39, 40, 42, 43, 44, 45, 48, 49, 50, 51, 76, 97, 98, 104, 105]) (fs := [(6, 3), (7, 1), (7, 2), (7, 3), (7, 4), (7, 5), (7, 6), (7, 7), (9, 2), (9, 3), (19, 2), (19, 3), (66, 59), (66, 60), (66, 61), (66, 62), (66, 63)]) ((Fr.rf.call hq_12 (by decide) (by decide)).call hq_27 (by decide) (by decide)) (by decide) (by decide)
    have g_34 : gTE G_26 = gTE G := gTE_fr (rs := [37, 38, 39, 40, 42, 43, 44, 45, 48, 49, 50, 51, 76, 97, 98, 104, 105]) (fs := [(6, 3), (7, 1), (7, 2), (7, 3), (7, 4), (7, 5), (7, 6), (7, 7), (9, 2), (9, 3), (19, 2), (19, 3), (66, 59), (66, 60), (66, 61), (66, 62), (66, 63)]) ((Fr.rf.call hq_12 (by decide) (by decide)).call hq_27 (by decide) (by decide)) (by decide) (by decide)
    have g_35 : gW G_26 = gW G := gW_fr (rs := [37, 38, 39, 40, 42, 43, 44, 45, 48, 49, 50, 51, 76, 97, 98, 104, 105]) (fs := [(6, 3), (7, 1), (7, 2), (7, 3), (7, 4), (7, 5), (7, 6), (7, 7), (9, 2), (9, 3), (19, 2), (19, 3), (66, 59), (66, 60), (66, 61), (66, 62), (66, 63)]) ((Fr.rf.call hq_12 (by decide) (by decide)).call hq_27 (by decide) (by decide)) (by decide) (by decide)
    have b_36 : 0 ≤ (G.1 0 11).toInt ∧ (G.1 0 11).toInt ≤ 1600 := hB_G.i 0 11 rfl rfl
    have g_37 : (G_26.1 0 11).toInt = (G.1 0 11).toInt := by rw [show G_26.1 0 11 = (G.1 0 11) from ((hq_27.i 0 11 (by decide) (by decide)).trans (hq_12.i 0 11 (by decide) (by decide)))]
    have b_38 : 0 ≤ (G.1 3 7).toInt ∧ (G.1 3 7).toInt ≤ 4 := hB_G.i 3 7 rfl rfl
    have g_39 : (G_26.1 3 7).toInt = (G.1 3 7).toInt := by rw [show G_26.1 3 7 = (G.1 3 7) from ((hq_27.i 3 7 (by decide) (by decide)).trans (hq_12.i 3 7 (by decide) (by decide)))]
    have b_40 : (-1) ≤ (G.1 3 8).toInt ∧ (G.1 3 8).toInt ≤ 1600 := hB_G.i 3 8 rfl rfl
    have g_41 : (G_26.1 3 8).toInt = (G.1 3 8).toInt := by rw [show G_26.1 3 8 = (G.1 3 8) from ((hq_27.i 3 8 (by decide) (by decide)).trans (hq_12.i 3 8 (by decide) (by decide)))]
    have b_42 : 0 ≤ (G.1 30 4).toInt ∧ (G.1 30 4).toInt ≤ 40 := hB_G.i 30 4 rfl rfl
    have g_43 : (G_26.1 30 4).toInt = (G.1 30 4).toInt := by rw [show G_26.1 30 4 = (G.1 30 4) from ((hq_27.i 30 4 (by decide) (by decide)).trans (hq_12.i 30 4 (by decide) (by decide)))]
    have b_44 : 0 ≤ (G.1 30 5).toInt ∧ (G.1 30 5).toInt ≤ 40 := hB_G.i 30 5 rfl rfl
    have g_45 : (G_26.1 30 5).toInt = (G.1 30 5).toInt := by rw [show G_26.1 30 5 = (G.1 30 5) from ((hq_27.i 30 5 (by decide) (by decide)).trans (hq_12.i 30 5 (by decide) (by decide)))]
    have b_46 : 0 ≤ (G.1 31 6).toInt ∧ (G.1 31 6).toInt ≤ 100000 := hB_G.i 31 6 rfl rfl
    have g_47 : (G_26.1 31 6).toInt = (G.1 31 6).toInt := by rw [show G_26.1 31 6 = (G.1 31 6) from ((hq_27.i 31 6 (by decide) (by decide)).trans (hq_12.i 31 6 (by decide) (by decide)))]
    have b_48 : 0 ≤ (G.1 66 1).toInt ∧ (G.1 66 1).toInt ≤ 1600 := hB_G.i 66 1 rfl rfl
    have g_49 : (G_26.1 66 1).toInt = (G.1 66 1).toInt := by rw [show G_26.1 66 1 = (G.1 66 1) from ((hq_27.i 66 1 (by decide) (by decide)).trans (hq_12.i 66 1 (by decide) (by decide)))]
    have b_50 : 0 ≤ (G.1 66 2).toInt ∧ (G.1 66 2).toInt ≤ 4 := hB_G.i 66 2 rfl rfl
    have g_51 : (G_26.1 66 2).toInt = (G.1 66 2).toInt := by rw [show G_26.1 66 2 = (G.1 66 2) from ((hq_27.i 66 2 (by decide) (by decide)).trans (hq_12.i 66 2 (by decide) (by decide)))]
    have b_52 : (-1) ≤ (G.1 66 3).toInt ∧ (G.1 66 3).toInt ≤ 1600 := hB_G.i 66 3 rfl rfl
    have g_53 : (G_26.1 66 3).toInt = (G.1 66 3).toInt := by rw [show G_26.1 66 3 = (G.1 66 3) from ((hq_27.i 66 3 (by decide) (by decide)).trans (hq_12.i 66 3 (by decide) (by decide)))]
    have b_54 : 0 ≤ (G.1 66 78).toInt ∧ (G.1 66 78).toInt ≤ 40 := hB_G.i 66 78 rfl rfl
    have g_55 : (G_26.1 66 78).toInt = (G.1 66 78).toInt := by rw [show G_26.1 66 78 = (G.1 66 78) from ((hq_27.i 66 78 (by decide) (by decide)).trans (hq_12.i 66 78 (by decide) (by decide)))]
    have b_56 : 0 ≤ (G.1 66 79).toInt ∧ (G.1 66 79).toInt ≤ 40 := hB_G.i 66 79 rfl rfl
    have g_57 : (G_26.1 66 79).toInt = (G.1 66 79).toInt := by rw [show G_26.1 66 79 = (G.1 66 79) from ((hq_27.i 66 79 (by decide) (by decide)).trans (hq_12.i 66 79 (by decide) (by decide)))]
    have b_58 : 0 ≤ (G.1 66 86).toInt ∧ (G.1 66 86).toInt ≤ 100000 := hB_G.i 66 86 rfl rfl
    have g_59 : (G_26.1 66 86).toInt = (G.1 66 86).toInt := by rw [show G_26.1 66 86 = (G.1 66 86) from ((hq_27.i 66 86 (by decide) (by decide)).trans (hq_12.i 66 86 (by decide) (by decide)))]
    have b_60 : 0 ≤ (G.1 96 0).toInt ∧ (G.1 96 0).toInt ≤ 9 := hB_G.i 96 0 rfl rfl
    have g_61 : (G_26.1 96 0).toInt = (G.1 96 0).toInt := by rw [show G_26.1 96 0 = (G.1 96 0) from ((hq_27.i 96 0 (by decide) (by decide)).trans (hq_12.i 96 0 (by decide) (by decide)))]
    have b_62 : 0 ≤ (G.1 96 1).toInt ∧ (G.1 96 1).toInt ≤ 9 := hB_G.i 96 1 rfl rfl
    have g_63 : (G_26.1 96 1).toInt = (G.1 96 1).toInt := by rw [show G_26.1 96 1 = (G.1 96 1) from ((hq_27.i 96 1 (by decide) (by decide)).trans (hq_12.i 96 1 (by decide) (by decide)))]
    have b_64 : 0 ≤ (G.1 96 2).toInt ∧ (G.1 96 2).toInt ≤ 9 := hB_G.i 96 2 rfl rfl
    have g_65 : (G_26.1 96 2).toInt = (G.1 96 2).toInt := by rw [show G_26.1 96 2 = (G.1 96 2) from ((hq_27.i 96 2 (by decide) (by decide)).trans (hq_12.i 96 2 (by decide) (by decide)))]
    exact K G_26 _ _ _ (Or.inl ⟨((((hq_27.r 0 0 (by decide) (by decide)).trans (hq_12.r 0 0 (by decide) (by decide)))).trans (hv_0_0)), ((((hq_27.r 0 1 (by decide) (by decide)).trans (hq_12.r 0 1 (by decide) (by decide)))).trans (hv_0_1)), ((((hq_27.r 6 4 (by decide) (by decide)).trans (hq_12.r 6 4 (by decide) (by decide)))).trans (hv_6_4)), by omega, by omega, by omega, by omega, by omega, by omega, by omega, by omega, by omega, by omega, by omega, by omega, by omega⟩) hB_G_26 hW hS (lv_sub hl [0, 1, 2, 3] rfl)
  · skip
    refine lv_aload_n hx hb dL_law_975 rfl (lv_at hl 1 rfl) ?_
    refine lv_aload_n hx hb dL_law_976 rfl (lv_at hl 0 rfl) ?_
    refine lv_iload_n hx hb dL_law_977 rfl (lv_at hl 3 rfl) ?_
    refine lv_iconst (v := 1) hx hb dL_law_978 (by decide) ?_
    refine lv_iadd hx hb dL_law_979 ?_
    refine lv_topi (fun y_1 ey_1 => ?_)
    have ty_1 : y_1.toInt = i0.toInt + 1 := xI_add rfl rfl ey_1 (by omega) (by omega)
    refine va_sld hx hb hX hbl hbA hS (vin (by omega) (by omega)) dL_law_980 ?_
    refine lv_topi (fun y_2 ey_2 => ?_)
    have u_3 : y_2.toInt = (xs (i0 + 1).toNatClampNeg).toInt := by rw [ey_2, ey_1]
    refine lv_aload_n hx hb dL_law_981 rfl (lv_at hl 0 rfl) ?_
    refine lv_iload_n hx hb dL_law_982 rfl (lv_at hl 3 rfl) ?_
    refine lv_iconst (v := 2) hx hb dL_law_983 (by decide) ?_
    refine lv_iadd hx hb dL_law_984 ?_
    refine lv_topi (fun y_4 ey_4 => ?_)
    have ty_4 : y_4.toInt = i0.toInt + 2 := xI_add rfl rfl ey_4 (by omega) (by omega)
    refine va_sld hx hb hX hbl hbA hS (vin (by omega) (by omega)) dL_law_985 ?_
    refine lv_topi (fun y_5 ey_5 => ?_)
    have u_6 : y_5.toInt = (xs (i0 + 2).toNatClampNeg).toInt := by rw [ey_5, ey_4]
    refine lv_aload_n hx hb dL_law_986 rfl (lv_at hl 0 rfl) ?_
    refine lv_iload_n hx hb dL_law_987 rfl (lv_at hl 3 rfl) ?_
    refine lv_iconst (v := 3) hx hb dL_law_988 (by decide) ?_
    refine lv_iadd hx hb dL_law_989 ?_
    refine lv_topi (fun y_7 ey_7 => ?_)
    have ty_7 : y_7.toInt = i0.toInt + 3 := xI_add rfl rfl ey_7 (by omega) (by omega)
    refine va_sld hx hb hX hbl hbA hS (vin (by omega) (by omega)) dL_law_990 ?_
    refine lv_topi (fun y_8 ey_8 => ?_)
    have u_9 : y_8.toInt = (xs (i0 + 3).toNatClampNeg).toInt := by rw [ey_8, ey_7]
    refine S_calli (va_runV (As := [.int y_2, .int y_5, .int y_8]) (rest := []) ⟨hx, hb, hml, hown, hts⟩ (k_Wkeeps_2 l D k A a z G y_2 y_5 y_8 hv_0_0 hv_0_1 hv_6_4) (cwV 3 hts (gd_V hgd m1087 m1088 m1089 m117 m1090) rfl rfl rfl (by decide +kernel) ⟨Nat.le_of_ble_eq_true rfl, Nat.le_of_ble_eq_true rfl⟩) (pre_V hW hB_G hK hZ hS kd_0 rfl) rfl rfl hl.1 rfl (lv_room (Nat.le_of_ble_eq_true rfl)) dL_law_991 ⟨Nat.le_of_ble_eq_true rfl, Nat.le_of_ble_eq_true rfl⟩) hS (fun r_10 G_11 H locs hpo hW hS => ?_)
    have hX_14 : P_Wkeeps_2 y_2 y_5 y_8 G r_10 G_11 := hpo
    obtain ⟨hB_G_11, hq_12, -⟩ := hpo
    refine lv_pop hx hb dL_law_994 rfl ?_
    refine lv_aload_n hx hb dL_law_995 rfl (lv_at hl 2 rfl) ?_
    refine lv_aload_n hx hb dL_law_996 rfl (lv_at hl 0 rfl) ?_
    refine lv_iload_n hx hb dL_law_997 rfl (lv_at hl 3 rfl) ?_
    refine lv_iconst (v := 1) hx hb dL_law_998 (by decide) ?_
    refine lv_iadd hx hb dL_law_999 ?_
    refine lv_topi (fun y_15 ey_15 => ?_)
    have ty_15 : y_15.toInt = i0.toInt + 1 := xI_add rfl rfl ey_15 (by omega) (by omega)
    refine va_sld hx hb hX hbl hbA hS (vin (by omega) (by omega)) dL_law_1000 ?_
    refine lv_topi (fun y_16 ey_16 => ?_)
    have u_17 : y_16.toInt = (xs (i0 + 1).toNatClampNeg).toInt := by rw [ey_16, ey_15]
    refine lv_aload_n hx hb dL_law_1001 rfl (lv_at hl 0 rfl) ?_
    refine lv_iload_n hx hb dL_law_1002 rfl (lv_at hl 3 rfl) ?_
    refine lv_iconst (v := 2) hx hb dL_law_1003 (by decide) ?_
    refine lv_iadd hx hb dL_law_1004 ?_
    refine lv_topi (fun y_18 ey_18 => ?_)
    have ty_18 : y_18.toInt = i0.toInt + 2 := xI_add rfl rfl ey_18 (by omega) (by omega)
    refine va_sld hx hb hX hbl hbA hS (vin (by omega) (by omega)) dL_law_1005 ?_
    refine lv_topi (fun y_19 ey_19 => ?_)
    have u_20 : y_19.toInt = (xs (i0 + 2).toNatClampNeg).toInt := by rw [ey_19, ey_18]
    refine lv_aload_n hx hb dL_law_1006 rfl (lv_at hl 0 rfl) ?_
    refine lv_iload_n hx hb dL_law_1007 rfl (lv_at hl 3 rfl) ?_
    refine lv_iconst (v := 3) hx hb dL_law_1008 (by decide) ?_
    refine lv_iadd hx hb dL_law_1009 ?_
    refine lv_topi (fun y_21 ey_21 => ?_)
    have ty_21 : y_21.toInt = i0.toInt + 3 := xI_add rfl rfl ey_21 (by omega) (by omega)
    refine va_sld hx hb hX hbl hbA hS (vin (by omega) (by omega)) dL_law_1010 ?_
    refine lv_topi (fun y_22 ey_22 => ?_)
    have u_23 : y_22.toInt = (xs (i0 + 3).toNatClampNeg).toInt := by rw [ey_22, ey_21]
    have g_24 : gP G_11 = gP G := gP_fr (rs := [37, 38, 39, 40, 42, 43, 44, 45, 48, 49, 50, 51]) (fs := [(6, 3), (7, 1), (7, 2), (7, 3), (7, 4), (7, 5), (7, 6), (7, 7), (9, 2), (9, 3), (19, 2), (19, 3)]) (Fr.rf.call hq_12 (by decide) (by decide)) (by decide) (by decide)
    refine S_calli (va_runV (As := [.int y_16, .int y_19, .int y_22]) (rest := []) ⟨hx, hb, hml, hown, hts⟩ (n_keeps l D k A a z G_11 y_16 y_19 y_22 (by omega)) (cwV 3 hts (gd_V hgd m1927 m1928 m1929 m131 m1930) rfl rfl rfl (by decide +kernel) ⟨Nat.le_of_ble_eq_true rfl, Nat.le_of_ble_eq_true rfl⟩) (pre_V hW hB_G_11 hK hZ hS kd_66 rfl) rfl rfl hl.1 rfl (lv_room (Nat.le_of_ble_eq_true rfl)) dL_law_1011 ⟨Nat.le_of_ble_eq_true rfl, Nat.le_of_ble_eq_true rfl⟩) hS (fun r_25 G_26 H locs hpo hW hS => ?_)
    have hX_29 : Q_keeps y_16 y_19 y_22 G_11 r_25 G_26 := hpo
    obtain ⟨hB_G_26, hq_27, -⟩ := hpo
    have u_30 := L_keeps_2 hX_14 hX_29 (by omega) (by omega) (by omega) (by omega)
    refine lv_pop hx hb dL_law_1014 rfl ?_
    refine lv_goto (tgt := 1641) hx hb dL_law_1015 (by decide) ?_
    have g_31 : gO G_26 = gO G := gO_fr (rs := [37, 38, 39, 40, 42, 43, 44, 45, 48, 49, 50, 51, 76, 97, 98, 104, 105]) (fs := [(6, 3), (7, 1), (7, 2), (7, 3), (7, 4), (7, 5), (7, 6), (7, 7), (9, 2), (9, 3), (19, 2), (19, 3), (66, 59), (66, 60), (66, 61), (66, 62), (66, 63)]) ((Fr.rf.call hq_12 (by decide) (by decide)).call hq_27 (by decide) (by decide)) (by decide) (by decide)
    have g_32 : gP G_26 = gP G := gP_fr (rs := [37, 38, 39, 40, 42, 43, 44, 45, 48, 49, 50, 51, 76, 97, 98, 104, 105]) (fs := [(6, 3), (7, 1), (7, 2), (7, 3), (7, 4), (7, 5), (7, 6), (7, 7), (9, 2), (9, 3), (19, 2), (19, 3), (66, 59), (66, 60), (66, 61), (66, 62), (66, 63)]) ((Fr.rf.call hq_12 (by decide) (by decide)).call hq_27 (by decide) (by decide)) (by decide) (by decide)
    have g_33 : gS G_26 = gS G := gS_fr (rs := [37, 38, 39, 40, 42, 43, 44, 45, 48, 49, 50, 51, 76, 97, 98, 104, 105]) (fs := [(6, 3), (7, 1), (7, 2), (7, 3), (7, 4), (7, 5), (7, 6), (7, 7), (9, 2), (9, 3), (19, 2), (19, 3), (66, 59), (66, 60), (66, 61), (66, 62), (66, 63)]) ((Fr.rf.call hq_12 (by decide) (by decide)).call hq_27 (by decide) (by decide)) (by decide) (by decide)
    have g_34 : gTE G_26 = gTE G := gTE_fr (rs := [37, 38, 39, 40, 42, 43, 44, 45, 48, 49, 50, 51, 76, 97, 98, 104, 105]) (fs := [(6, 3), (7, 1), (7, 2), (7, 3), (7, 4), (7, 5), (7, 6), (7, 7), (9, 2), (9, 3), (19, 2), (19, 3), (66, 59), (66, 60), (66, 61), (66, 62), (66, 63)]) ((Fr.rf.call hq_12 (by decide) (by decide)).call hq_27 (by decide) (by decide)) (by decide) (by decide)
    have g_35 : gW G_26 = gW G := gW_fr (rs := [37, 38, 39, 40, 42, 43, 44, 45, 48, 49, 50, 51, 76, 97, 98, 104, 105]) (fs := [(6, 3), (7, 1), (7, 2), (7, 3), (7, 4), (7, 5), (7, 6), (7, 7), (9, 2), (9, 3), (19, 2), (19, 3), (66, 59), (66, 60), (66, 61), (66, 62), (66, 63)]) ((Fr.rf.call hq_12 (by decide) (by decide)).call hq_27 (by decide) (by decide)) (by decide) (by decide)
    have b_36 : 0 ≤ (G.1 0 11).toInt ∧ (G.1 0 11).toInt ≤ 1600 := hB_G.i 0 11 rfl rfl
    have g_37 : (G_26.1 0 11).toInt = (G.1 0 11).toInt := by rw [show G_26.1 0 11 = (G.1 0 11) from ((hq_27.i 0 11 (by decide) (by decide)).trans (hq_12.i 0 11 (by decide) (by decide)))]
    have b_38 : 0 ≤ (G.1 3 7).toInt ∧ (G.1 3 7).toInt ≤ 4 := hB_G.i 3 7 rfl rfl
    have g_39 : (G_26.1 3 7).toInt = (G.1 3 7).toInt := by rw [show G_26.1 3 7 = (G.1 3 7) from ((hq_27.i 3 7 (by decide) (by decide)).trans (hq_12.i 3 7 (by decide) (by decide)))]
    have b_40 : (-1) ≤ (G.1 3 8).toInt ∧ (G.1 3 8).toInt ≤ 1600 := hB_G.i 3 8 rfl rfl
    have g_41 : (G_26.1 3 8).toInt = (G.1 3 8).toInt := by rw [show G_26.1 3 8 = (G.1 3 8) from ((hq_27.i 3 8 (by decide) (by decide)).trans (hq_12.i 3 8 (by decide) (by decide)))]
    have b_42 : 0 ≤ (G.1 30 4).toInt ∧ (G.1 30 4).toInt ≤ 40 := hB_G.i 30 4 rfl rfl
    have g_43 : (G_26.1 30 4).toInt = (G.1 30 4).toInt := by rw [show G_26.1 30 4 = (G.1 30 4) from ((hq_27.i 30 4 (by decide) (by decide)).trans (hq_12.i 30 4 (by decide) (by decide)))]
    have b_44 : 0 ≤ (G.1 30 5).toInt ∧ (G.1 30 5).toInt ≤ 40 := hB_G.i 30 5 rfl rfl
    have g_45 : (G_26.1 30 5).toInt = (G.1 30 5).toInt := by rw [show G_26.1 30 5 = (G.1 30 5) from ((hq_27.i 30 5 (by decide) (by decide)).trans (hq_12.i 30 5 (by decide) (by decide)))]
    have b_46 : 0 ≤ (G.1 31 6).toInt ∧ (G.1 31 6).toInt ≤ 100000 := hB_G.i 31 6 rfl rfl
    have g_47 : (G_26.1 31 6).toInt = (G.1 31 6).toInt := by rw [show G_26.1 31 6 = (G.1 31 6) from ((hq_27.i 31 6 (by decide) (by decide)).trans (hq_12.i 31 6 (by decide) (by decide)))]
    have b_48 : 0 ≤ (G.1 66 1).toInt ∧ (G.1 66 1).toInt ≤ 1600 := hB_G.i 66 1 rfl rfl
    have g_49 : (G_26.1 66 1).toInt = (G.1 66 1).toInt := by rw [show G_26.1 66 1 = (G.1 66 1) from ((hq_27.i 66 1 (by decide) (by decide)).trans (hq_12.i 66 1 (by decide) (by decide)))]
    have b_50 : 0 ≤ (G.1 66 2).toInt ∧ (G.1 66 2).toInt ≤ 4 := hB_G.i 66 2 rfl rfl
    have g_51 : (G_26.1 66 2).toInt = (G.1 66 2).toInt := by rw [show G_26.1 66 2 = (G.1 66 2) from ((hq_27.i 66 2 (by decide) (by decide)).trans (hq_12.i 66 2 (by decide) (by decide)))]
    have b_52 : (-1) ≤ (G.1 66 3).toInt ∧ (G.1 66 3).toInt ≤ 1600 := hB_G.i 66 3 rfl rfl
    have g_53 : (G_26.1 66 3).toInt = (G.1 66 3).toInt := by rw [show G_26.1 66 3 = (G.1 66 3) from ((hq_27.i 66 3 (by decide) (by decide)).trans (hq_12.i 66 3 (by decide) (by decide)))]
    have b_54 : 0 ≤ (G.1 66 78).toInt ∧ (G.1 66 78).toInt ≤ 40 := hB_G.i 66 78 rfl rfl
    have g_55 : (G_26.1 66 78).toInt = (G.1 66 78).toInt := by rw [show G_26.1 66 78 = (G.1 66 78) from ((hq_27.i 66 78 (by decide) (by decide)).trans (hq_12.i 66 78 (by decide) (by decide)))]
    have b_56 : 0 ≤ (G.1 66 79).toInt ∧ (G.1 66 79).toInt ≤ 40 := hB_G.i 66 79 rfl rfl
    have g_57 : (G_26.1 66 79).toInt = (G.1 66 79).toInt := by rw [show G_26.1 66 79 = (G.1 66 79) from ((hq_27.i 66 79 (by decide) (by decide)).trans (hq_12.i 66 79 (by decide) (by decide)))]
    have b_58 : 0 ≤ (G.1 66 86).toInt ∧ (G.1 66 86).toInt ≤ 100000 := hB_G.i 66 86 rfl rfl
    have g_59 : (G_26.1 66 86).toInt = (G.1 66 86).toInt := by rw [show G_26.1 66 86 = (G.1 66 86) from ((hq_27.i 66 86 (by decide) (by decide)).trans (hq_12.i 66 86 (by decide) (by decide)))]
    have b_60 : 0 ≤ (G.1 96 0).toInt ∧ (G.1 96 0).toInt ≤ 9 := hB_G.i 96 0 rfl rfl
    have g_61 : (G_26.1 96 0).toInt = (G.1 96 0).toInt := by rw [show G_26.1 96 0 = (G.1 96 0) from ((hq_27.i 96 0 (by decide) (by decide)).trans (hq_12.i 96 0 (by decide) (by decide)))]
    have b_62 : 0 ≤ (G.1 96 1).toInt ∧ (G.1 96 1).toInt ≤ 9 := hB_G.i 96 1 rfl rfl
    have g_63 : (G_26.1 96 1).toInt = (G.1 96 1).toInt := by rw [show G_26.1 96 1 = (G.1 96 1) from ((hq_27.i 96 1 (by decide) (by decide)).trans (hq_12.i 96 1 (by decide) (by decide)))]
    have b_64 : 0 ≤ (G.1 96 2).toInt ∧ (G.1 96 2).toInt ≤ 9 := hB_G.i 96 2 rfl rfl
    have g_65 : (G_26.1 96 2).toInt = (G.1 96 2).toInt := by rw [show G_26.1 96 2 = (G.1 96 2) from ((hq_27.i 96 2 (by decide) (by decide)).trans (hq_12.i 96 2 (by decide) (by decide)))]
    exact K G_26 _ _ _ (Or.inr ⟨((((hq_27.r 0 0 (by decide) (by decide)).trans (hq_12.r 0 0 (by decide) (by decide)))).trans (hv_0_0)), ((((hq_27.r 0 1 (by decide) (by decide)).trans (hq_12.r 0 1 (by decide) (by decide)))).trans (hv_0_1)), ((((hq_27.r 6 4 (by decide) (by decide)).trans (hq_12.r 6 4 (by decide) (by decide)))).trans (hv_6_4)), by omega, by omega, by omega, by omega, by omega, by omega, by omega, by omega, by omega, by omega, by omega, by omega, by omega⟩) hB_G_26 hW hS (lv_sub hl [0, 1, 2, 3] rfl)

set_option maxHeartbeats 4000000 in
set_option maxRecDepth 100000 in
theorem law_18 {p : Program} {l : Launch} {e : Env} {s : State} {m : MethodId} {below : List Frame} {meth : Method} {c : Code} {D : va_G} {k : KT} {A : Nat → Prop} {a : Nat → Nat} {z : SK} {b L : Nat} {xs : Nat → Int32} (hL : L ≤ 3072) (C0 : lw_At p s m meth c b L xs) (hK : cK D k s) (hZ : Sx A z s) (hbA : ¬ A b) {G : GS} {i0 : Int32} (hi0 : 0 ≤ i0.toInt) (hi6 : i0.toInt + 6 ≤ L) (hI : LI G) (hB_G : Bd G) {H : Heap} {locs : List Loc} {ls : Array Slot} (hW : Wd D k A a G H) (hS : va_S A s.heap H locs) (hl : lv_has ls 4 [(0, .ref b), (1, .ref (a 0)), (2, .ref (a 66)), (3, .int i0)]) (K : ∀ (G1 : GS) (H1 : Heap) (locs1 : List Loc) (ls1 : Array Slot), LI G1 → Bd G1 → Wd D k A a G1 H1 → va_S A s.heap H1 locs1 → lv_has ls1 4 [(0, .ref b), (1, .ref (a 0)), (2, .ref (a 66)), (3, .int i0)] → W p l e room_1 s m #[Value.ref b] below meth c H1 locs1 119 46443 (lw_Z below #[Value.ref b] s) (F0 m 1641 ls1 [])) : W p l e room_1 s m #[Value.ref b] below meth c H locs 119 46443 (lw_Z below #[Value.ref b] s) (F0 m 1018 ls []) := by
  obtain ⟨hx, hb, hr, hml, hown, hts, hX, hbl, hlocks, hgv⟩ := id C0
  have hown : s.vm.findClass RL = some m.cls := hown
  have hgd : ∀ w ∈ gd, w ∈ lw_tbl := fun w h => (List.mem_filter.mp h).1
  have hg : ∀ w ∈ gd, w.before #[Value.ref b] s = true := fun w h => hts w (hgd w h)
  rcases hI with ⟨hv_0_0, hv_0_1, hv_6_4, hj0, hj1, hj2, hj3, hj4, hj5, hj6, hj7, hj8, hj9, hj10, hj11⟩ | ⟨hv_0_0, hv_0_1, hv_6_4, hj0, hj1, hj2, hj3, hj4, hj5, hj6, hj7, hj8, hj9, hj10, hj11⟩
  · skip
    refine lv_aload_n hx hb dL_law_1018 rfl (lv_at hl 1 rfl) ?_
    refine lv_aload_n hx hb dL_law_1019 rfl (lv_at hl 0 rfl) ?_
    refine lv_iload_n hx hb dL_law_1020 rfl (lv_at hl 3 rfl) ?_
    refine lv_iconst (v := 1) hx hb dL_law_1021 (by decide) ?_
    refine lv_iadd hx hb dL_law_1022 ?_
    refine lv_topi (fun y_1 ey_1 => ?_)
    have ty_1 : y_1.toInt = i0.toInt + 1 := xI_add rfl rfl ey_1 (by omega) (by omega)
    refine va_sld hx hb hX hbl hbA hS (vin (by omega) (by omega)) dL_law_1023 ?_
    refine lv_topi (fun y_2 ey_2 => ?_)
    have u_3 : y_2.toInt = (xs (i0 + 1).toNatClampNeg).toInt := by rw [ey_2, ey_1]
    refine lv_aload_n hx hb dL_law_1024 rfl (lv_at hl 0 rfl) ?_
    refine lv_iload_n hx hb dL_law_1025 rfl (lv_at hl 3 rfl) ?_
    refine lv_iconst (v := 2) hx hb dL_law_1026 (by decide) ?_
    refine lv_iadd hx hb dL_law_1027 ?_
    refine lv_topi (fun y_4 ey_4 => ?_)
    have ty_4 : y_4.toInt = i0.toInt + 2 := xI_add rfl rfl ey_4 (by omega) (by omega)
    refine va_sld hx hb hX hbl hbA hS (vin (by omega) (by omega)) dL_law_1028 ?_
    refine lv_topi (fun y_5 ey_5 => ?_)
    have u_6 : y_5.toInt = (xs (i0 + 2).toNatClampNeg).toInt := by rw [ey_5, ey_4]
    refine lv_aload_n hx hb dL_law_1029 rfl (lv_at hl 0 rfl) ?_
    refine lv_iload_n hx hb dL_law_1030 rfl (lv_at hl 3 rfl) ?_
    refine lv_iconst (v := 3) hx hb dL_law_1031 (by decide) ?_
    refine lv_iadd hx hb dL_law_1032 ?_
    refine lv_topi (fun y_7 ey_7 => ?_)
    have ty_7 : y_7.toInt = i0.toInt + 3 := xI_add rfl rfl ey_7 (by omega) (by omega)
    refine va_sld hx hb hX hbl hbA hS (vin (by omega) (by omega)) dL_law_1033 ?_
    refine lv_topi (fun y_8 ey_8 => ?_)
    have u_9 : y_8.toInt = (xs (i0 + 3).toNatClampNeg).toInt := by rw [ey_8, ey_7]
    refine lv_aload_n hx hb dL_law_1034 rfl (lv_at hl 0 rfl) ?_
    refine lv_iload_n hx hb dL_law_1035 rfl (lv_at hl 3 rfl) ?_
    refine lv_iconst (v := 4) hx hb dL_law_1036 (by decide) ?_
    refine lv_iadd hx hb dL_law_1037 ?_
    refine lv_topi (fun y_10 ey_10 => ?_)
    have ty_10 : y_10.toInt = i0.toInt + 4 := xI_add rfl rfl ey_10 (by omega) (by omega)
    refine va_sld hx hb hX hbl hbA hS (vin (by omega) (by omega)) dL_law_1038 ?_
    refine lv_topi (fun y_11 ey_11 => ?_)
    have u_12 : y_11.toInt = (xs (i0 + 4).toNatClampNeg).toInt := by rw [ey_11, ey_10]
    refine lv_aload_n hx hb dL_law_1039 rfl (lv_at hl 0 rfl) ?_
    refine lv_iload_n hx hb dL_law_1040 rfl (lv_at hl 3 rfl) ?_
    refine lv_iconst (v := 5) hx hb dL_law_1041 (by decide) ?_
    refine lv_iadd hx hb dL_law_1042 ?_
    refine lv_topi (fun y_13 ey_13 => ?_)
    have ty_13 : y_13.toInt = i0.toInt + 5 := xI_add rfl rfl ey_13 (by omega) (by omega)
    refine va_sld hx hb hX hbl hbA hS (vin (by omega) (by omega)) dL_law_1043 ?_
    refine lv_topi (fun y_14 ey_14 => ?_)
    have u_15 : y_14.toInt = (xs (i0 + 5).toNatClampNeg).toInt := by rw [ey_14, ey_13]
    refine S_calll (va_runV (As := [.int y_2, .int y_5, .int y_8, .int y_11, .int y_14]) (rest := []) ⟨hx, hb, hml, hown, hts⟩ (k_Wbrave_1 l D k A a z G y_2 y_5 y_8 y_11 y_14 hv_0_0 hv_0_1 hv_6_4) (cwV 5 hts (gd_V hgd m1113 m1114 m1115 m117 m1116) rfl rfl rfl (by decide +kernel) ⟨Nat.le_of_ble_eq_true rfl, Nat.le_of_ble_eq_true rfl⟩) (pre_V hW hB_G hK hZ hS kd_0 rfl) rfl rfl hl.1 rfl (lv_room (Nat.le_of_ble_eq_true rfl)) dL_law_1044 ⟨Nat.le_of_ble_eq_true rfl, Nat.le_of_ble_eq_true rfl⟩) hS (fun r_16 G_17 H locs hpo hW hS => ?_)
    have hX_20 : P_Wbrave_1 y_2 y_5 y_8 y_11 y_14 G r_16 G_17 := hpo
    obtain ⟨hB_G_17, hq_18, -⟩ := hpo
    refine lv_pop2_2 hx hb dL_law_1047 rfl ?_
    refine lv_aload_n hx hb dL_law_1048 rfl (lv_at hl 2 rfl) ?_
    refine lv_aload_n hx hb dL_law_1049 rfl (lv_at hl 0 rfl) ?_
    refine lv_iload_n hx hb dL_law_1050 rfl (lv_at hl 3 rfl) ?_
    refine lv_iconst (v := 1) hx hb dL_law_1051 (by decide) ?_
    refine lv_iadd hx hb dL_law_1052 ?_
    refine lv_topi (fun y_21 ey_21 => ?_)
    have ty_21 : y_21.toInt = i0.toInt + 1 := xI_add rfl rfl ey_21 (by omega) (by omega)
    refine va_sld hx hb hX hbl hbA hS (vin (by omega) (by omega)) dL_law_1053 ?_
    refine lv_topi (fun y_22 ey_22 => ?_)
    have u_23 : y_22.toInt = (xs (i0 + 1).toNatClampNeg).toInt := by rw [ey_22, ey_21]
    refine lv_aload_n hx hb dL_law_1054 rfl (lv_at hl 0 rfl) ?_
    refine lv_iload_n hx hb dL_law_1055 rfl (lv_at hl 3 rfl) ?_
    refine lv_iconst (v := 2) hx hb dL_law_1056 (by decide) ?_
    refine lv_iadd hx hb dL_law_1057 ?_
    refine lv_topi (fun y_24 ey_24 => ?_)
    have ty_24 : y_24.toInt = i0.toInt + 2 := xI_add rfl rfl ey_24 (by omega) (by omega)
    refine va_sld hx hb hX hbl hbA hS (vin (by omega) (by omega)) dL_law_1058 ?_
    refine lv_topi (fun y_25 ey_25 => ?_)
    have u_26 : y_25.toInt = (xs (i0 + 2).toNatClampNeg).toInt := by rw [ey_25, ey_24]
    refine lv_aload_n hx hb dL_law_1059 rfl (lv_at hl 0 rfl) ?_
    refine lv_iload_n hx hb dL_law_1060 rfl (lv_at hl 3 rfl) ?_
    refine lv_iconst (v := 3) hx hb dL_law_1061 (by decide) ?_
    refine lv_iadd hx hb dL_law_1062 ?_
    refine lv_topi (fun y_27 ey_27 => ?_)
    have ty_27 : y_27.toInt = i0.toInt + 3 := xI_add rfl rfl ey_27 (by omega) (by omega)
    refine va_sld hx hb hX hbl hbA hS (vin (by omega) (by omega)) dL_law_1063 ?_
    refine lv_topi (fun y_28 ey_28 => ?_)
    have u_29 : y_28.toInt = (xs (i0 + 3).toNatClampNeg).toInt := by rw [ey_28, ey_27]
    refine lv_aload_n hx hb dL_law_1064 rfl (lv_at hl 0 rfl) ?_
    refine lv_iload_n hx hb dL_law_1065 rfl (lv_at hl 3 rfl) ?_
    refine lv_iconst (v := 4) hx hb dL_law_1066 (by decide) ?_
    refine lv_iadd hx hb dL_law_1067 ?_
    refine lv_topi (fun y_30 ey_30 => ?_)
    have ty_30 : y_30.toInt = i0.toInt + 4 := xI_add rfl rfl ey_30 (by omega) (by omega)
    refine va_sld hx hb hX hbl hbA hS (vin (by omega) (by omega)) dL_law_1068 ?_
    refine lv_topi (fun y_31 ey_31 => ?_)
    have u_32 : y_31.toInt = (xs (i0 + 4).toNatClampNeg).toInt := by rw [ey_31, ey_30]
    refine lv_aload_n hx hb dL_law_1069 rfl (lv_at hl 0 rfl) ?_
    refine lv_iload_n hx hb dL_law_1070 rfl (lv_at hl 3 rfl) ?_
    refine lv_iconst (v := 5) hx hb dL_law_1071 (by decide) ?_
    refine lv_iadd hx hb dL_law_1072 ?_
    refine lv_topi (fun y_33 ey_33 => ?_)
    have ty_33 : y_33.toInt = i0.toInt + 5 := xI_add rfl rfl ey_33 (by omega) (by omega)
    refine va_sld hx hb hX hbl hbA hS (vin (by omega) (by omega)) dL_law_1073 ?_
    refine lv_topi (fun y_34 ey_34 => ?_)
    have u_35 : y_34.toInt = (xs (i0 + 5).toNatClampNeg).toInt := by rw [ey_34, ey_33]
    have g_36 : gP G_17 = gP G := gP_fr (rs := [37, 38, 39, 40, 56, 57]) (fs := [(6, 3), (7, 1), (7, 2), (7, 3), (7, 4), (7, 5), (7, 6), (7, 7), (29, 6)]) (Fr.rf.call hq_18 (by decide) (by decide)) (by decide) (by decide)
    have g_37 : gW G_17 = gW G := gW_fr (rs := [37, 38, 39, 40, 56, 57]) (fs := [(6, 3), (7, 1), (7, 2), (7, 3), (7, 4), (7, 5), (7, 6), (7, 7), (29, 6)]) (Fr.rf.call hq_18 (by decide) (by decide)) (by decide) (by decide)
    have g_38 : gO G_17 = gO G := gO_fr (rs := [37, 38, 39, 40, 56, 57]) (fs := [(6, 3), (7, 1), (7, 2), (7, 3), (7, 4), (7, 5), (7, 6), (7, 7), (29, 6)]) (Fr.rf.call hq_18 (by decide) (by decide)) (by decide) (by decide)
    refine S_calll (va_runV (As := [.int y_22, .int y_25, .int y_28, .int y_31, .int y_34]) (rest := []) ⟨hx, hb, hml, hown, hts⟩ (n_brave l D k A a z G_17 y_22 y_25 y_28 y_31 y_34 (by omega) (by omega) (by omega)) (cwV 5 hts (gd_V hgd m1939 m1940 m1941 m131 m1942) rfl rfl rfl (by decide +kernel) ⟨Nat.le_of_ble_eq_true rfl, Nat.le_of_ble_eq_true rfl⟩) (pre_V hW hB_G_17 hK hZ hS kd_66 rfl) rfl rfl hl.1 rfl (lv_room (Nat.le_of_ble_eq_true rfl)) dL_law_1074 ⟨Nat.le_of_ble_eq_true rfl, Nat.le_of_ble_eq_true rfl⟩) hS (fun r_39 G_40 H locs hpo hW hS => ?_)
    have hX_43 : Q_brave y_22 y_25 y_28 y_31 y_34 G_17 r_39 G_40 := hpo
    obtain ⟨hB_G_40, hq_41, hp_42, -⟩ := hpo
    have u_44 := L_brave_1 hX_20 hX_43 (by omega) (by omega) (by omega) (by omega) (by omega) (by omega)
    refine lv_pop2_2 hx hb dL_law_1077 rfl ?_
    refine lv_goto (tgt := 1641) hx hb dL_law_1078 (by decide) ?_
    have g_45 : gP G_40 = gP G := gP_fr (rs := [37, 38, 39, 40, 56, 57, 76, 97, 98, 106]) (fs := [(6, 3), (7, 1), (7, 2), (7, 3), (7, 4), (7, 5), (7, 6), (7, 7), (29, 6), (66, 59), (66, 60), (66, 61), (66, 62), (66, 63)]) ((Fr.rf.call hq_18 (by decide) (by decide)).call hq_41 (by decide) (by decide)) (by decide) (by decide)
    have g_46 : gS G_40 = gS G := gS_fr (rs := [37, 38, 39, 40, 56, 57, 76, 97, 98, 106]) (fs := [(6, 3), (7, 1), (7, 2), (7, 3), (7, 4), (7, 5), (7, 6), (7, 7), (29, 6), (66, 59), (66, 60), (66, 61), (66, 62), (66, 63)]) ((Fr.rf.call hq_18 (by decide) (by decide)).call hq_41 (by decide) (by decide)) (by decide) (by decide)
    have g_47 : gTE G_40 = gTE G := gTE_fr (rs := [37, 38, 39, 40, 56, 57, 76, 97, 98, 106]) (fs := [(6, 3), (7, 1), (7, 2), (7, 3), (7, 4), (7, 5), (7, 6), (7, 7), (29, 6), (66, 59), (66, 60), (66, 61), (66, 62), (66, 63)]) ((Fr.rf.call hq_18 (by decide) (by decide)).call hq_41 (by decide) (by decide)) (by decide) (by decide)
    have g_48 : gW G_40 = gW G := gW_fr (rs := [37, 38, 39, 40, 56, 57, 76, 97, 98, 106]) (fs := [(6, 3), (7, 1), (7, 2), (7, 3), (7, 4), (7, 5), (7, 6), (7, 7), (29, 6), (66, 59), (66, 60), (66, 61), (66, 62), (66, 63)]) ((Fr.rf.call hq_18 (by decide) (by decide)).call hq_41 (by decide) (by decide)) (by decide) (by decide)
    have b_49 : 0 ≤ (G.1 0 11).toInt ∧ (G.1 0 11).toInt ≤ 1600 := hB_G.i 0 11 rfl rfl
    have g_50 : (G_40.1 0 11).toInt = (G.1 0 11).toInt := by rw [show G_40.1 0 11 = (G.1 0 11) from ((hq_41.i 0 11 (by decide) (by decide)).trans (hq_18.i 0 11 (by decide) (by decide)))]
    have b_51 : 0 ≤ (G.1 3 7).toInt ∧ (G.1 3 7).toInt ≤ 4 := hB_G.i 3 7 rfl rfl
    have g_52 : (G_40.1 3 7).toInt = (G.1 3 7).toInt := by rw [show G_40.1 3 7 = (G.1 3 7) from ((hq_41.i 3 7 (by decide) (by decide)).trans (hq_18.i 3 7 (by decide) (by decide)))]
    have b_53 : (-1) ≤ (G.1 3 8).toInt ∧ (G.1 3 8).toInt ≤ 1600 := hB_G.i 3 8 rfl rfl
    have g_54 : (G_40.1 3 8).toInt = (G.1 3 8).toInt := by rw [show G_40.1 3 8 = (G.1 3 8) from ((hq_41.i 3 8 (by decide) (by decide)).trans (hq_18.i 3 8 (by decide) (by decide)))]
    have b_55 : 0 ≤ (G.1 30 4).toInt ∧ (G.1 30 4).toInt ≤ 40 := hB_G.i 30 4 rfl rfl
    have g_56 : (G_40.1 30 4).toInt = (G.1 30 4).toInt := by rw [show G_40.1 30 4 = (G.1 30 4) from ((hq_41.i 30 4 (by decide) (by decide)).trans (hq_18.i 30 4 (by decide) (by decide)))]
    have b_57 : 0 ≤ (G.1 30 5).toInt ∧ (G.1 30 5).toInt ≤ 40 := hB_G.i 30 5 rfl rfl
    have g_58 : (G_40.1 30 5).toInt = (G.1 30 5).toInt := by rw [show G_40.1 30 5 = (G.1 30 5) from ((hq_41.i 30 5 (by decide) (by decide)).trans (hq_18.i 30 5 (by decide) (by decide)))]
    have b_59 : 0 ≤ (G.1 31 6).toInt ∧ (G.1 31 6).toInt ≤ 100000 := hB_G.i 31 6 rfl rfl
    have g_60 : (G_40.1 31 6).toInt = (G.1 31 6).toInt := by rw [show G_40.1 31 6 = (G.1 31 6) from ((hq_41.i 31 6 (by decide) (by decide)).trans (hq_18.i 31 6 (by decide) (by decide)))]
    have b_61 : 0 ≤ (G.1 66 1).toInt ∧ (G.1 66 1).toInt ≤ 1600 := hB_G.i 66 1 rfl rfl
    have g_62 : (G_40.1 66 1).toInt = (G.1 66 1).toInt := by rw [show G_40.1 66 1 = (G.1 66 1) from ((hq_41.i 66 1 (by decide) (by decide)).trans (hq_18.i 66 1 (by decide) (by decide)))]
    have b_63 : 0 ≤ (G.1 66 2).toInt ∧ (G.1 66 2).toInt ≤ 4 := hB_G.i 66 2 rfl rfl
    have g_64 : (G_40.1 66 2).toInt = (G.1 66 2).toInt := by rw [show G_40.1 66 2 = (G.1 66 2) from ((hq_41.i 66 2 (by decide) (by decide)).trans (hq_18.i 66 2 (by decide) (by decide)))]
    have b_65 : (-1) ≤ (G.1 66 3).toInt ∧ (G.1 66 3).toInt ≤ 1600 := hB_G.i 66 3 rfl rfl
    have g_66 : (G_40.1 66 3).toInt = (G.1 66 3).toInt := by rw [show G_40.1 66 3 = (G.1 66 3) from ((hq_41.i 66 3 (by decide) (by decide)).trans (hq_18.i 66 3 (by decide) (by decide)))]
    have b_67 : 0 ≤ (G.1 66 78).toInt ∧ (G.1 66 78).toInt ≤ 40 := hB_G.i 66 78 rfl rfl
    have g_68 : (G_40.1 66 78).toInt = (G.1 66 78).toInt := by rw [show G_40.1 66 78 = (G.1 66 78) from ((hq_41.i 66 78 (by decide) (by decide)).trans (hq_18.i 66 78 (by decide) (by decide)))]
    have b_69 : 0 ≤ (G.1 66 79).toInt ∧ (G.1 66 79).toInt ≤ 40 := hB_G.i 66 79 rfl rfl
    have g_70 : (G_40.1 66 79).toInt = (G.1 66 79).toInt := by rw [show G_40.1 66 79 = (G.1 66 79) from ((hq_41.i 66 79 (by decide) (by decide)).trans (hq_18.i 66 79 (by decide) (by decide)))]
    have b_71 : 0 ≤ (G.1 66 86).toInt ∧ (G.1 66 86).toInt ≤ 100000 := hB_G.i 66 86 rfl rfl
    have g_72 : (G_40.1 66 86).toInt = (G.1 66 86).toInt := by rw [show G_40.1 66 86 = (G.1 66 86) from ((hq_41.i 66 86 (by decide) (by decide)).trans (hq_18.i 66 86 (by decide) (by decide)))]
    have b_73 : 0 ≤ (G.1 96 0).toInt ∧ (G.1 96 0).toInt ≤ 9 := hB_G.i 96 0 rfl rfl
    have g_74 : (G_40.1 96 0).toInt = (G.1 96 0).toInt := by rw [show G_40.1 96 0 = (G.1 96 0) from ((hq_41.i 96 0 (by decide) (by decide)).trans (hq_18.i 96 0 (by decide) (by decide)))]
    have b_75 : 0 ≤ (G.1 96 1).toInt ∧ (G.1 96 1).toInt ≤ 9 := hB_G.i 96 1 rfl rfl
    have g_76 : (G_40.1 96 1).toInt = (G.1 96 1).toInt := by rw [show G_40.1 96 1 = (G.1 96 1) from ((hq_41.i 96 1 (by decide) (by decide)).trans (hq_18.i 96 1 (by decide) (by decide)))]
    have b_77 : 0 ≤ (G.1 96 2).toInt ∧ (G.1 96 2).toInt ≤ 9 := hB_G.i 96 2 rfl rfl
    have g_78 : (G_40.1 96 2).toInt = (G.1 96 2).toInt := by rw [show G_40.1 96 2 = (G.1 96 2) from ((hq_41.i 96 2 (by decide) (by decide)).trans (hq_18.i 96 2 (by decide) (by decide)))]
    exact K G_40 _ _ _ (Or.inl ⟨((((hq_41.r 0 0 (by decide) (by decide)).trans (hq_18.r 0 0 (by decide) (by decide)))).trans (hv_0_0)), ((((hq_41.r 0 1 (by decide) (by decide)).trans (hq_18.r 0 1 (by decide) (by decide)))).trans (hv_0_1)), ((((hq_41.r 6 4 (by decide) (by decide)).trans (hq_18.r 6 4 (by decide) (by decide)))).trans (hv_6_4)), by omega, by omega, by omega, by omega, by omega, by omega, by omega, by omega, by omega, by omega, by omega, by omega, by omega⟩) hB_G_40 hW hS (lv_sub hl [0, 1, 2, 3] rfl)
  · skip
    refine lv_aload_n hx hb dL_law_1018 rfl (lv_at hl 1 rfl) ?_
    refine lv_aload_n hx hb dL_law_1019 rfl (lv_at hl 0 rfl) ?_
    refine lv_iload_n hx hb dL_law_1020 rfl (lv_at hl 3 rfl) ?_
    refine lv_iconst (v := 1) hx hb dL_law_1021 (by decide) ?_
    refine lv_iadd hx hb dL_law_1022 ?_
    refine lv_topi (fun y_1 ey_1 => ?_)
    have ty_1 : y_1.toInt = i0.toInt + 1 := xI_add rfl rfl ey_1 (by omega) (by omega)
    refine va_sld hx hb hX hbl hbA hS (vin (by omega) (by omega)) dL_law_1023 ?_
    refine lv_topi (fun y_2 ey_2 => ?_)
    have u_3 : y_2.toInt = (xs (i0 + 1).toNatClampNeg).toInt := by rw [ey_2, ey_1]
    refine lv_aload_n hx hb dL_law_1024 rfl (lv_at hl 0 rfl) ?_
    refine lv_iload_n hx hb dL_law_1025 rfl (lv_at hl 3 rfl) ?_
    refine lv_iconst (v := 2) hx hb dL_law_1026 (by decide) ?_
    refine lv_iadd hx hb dL_law_1027 ?_
    refine lv_topi (fun y_4 ey_4 => ?_)
    have ty_4 : y_4.toInt = i0.toInt + 2 := xI_add rfl rfl ey_4 (by omega) (by omega)
    refine va_sld hx hb hX hbl hbA hS (vin (by omega) (by omega)) dL_law_1028 ?_
    refine lv_topi (fun y_5 ey_5 => ?_)
    have u_6 : y_5.toInt = (xs (i0 + 2).toNatClampNeg).toInt := by rw [ey_5, ey_4]
    refine lv_aload_n hx hb dL_law_1029 rfl (lv_at hl 0 rfl) ?_
    refine lv_iload_n hx hb dL_law_1030 rfl (lv_at hl 3 rfl) ?_
    refine lv_iconst (v := 3) hx hb dL_law_1031 (by decide) ?_
    refine lv_iadd hx hb dL_law_1032 ?_
    refine lv_topi (fun y_7 ey_7 => ?_)
    have ty_7 : y_7.toInt = i0.toInt + 3 := xI_add rfl rfl ey_7 (by omega) (by omega)
    refine va_sld hx hb hX hbl hbA hS (vin (by omega) (by omega)) dL_law_1033 ?_
    refine lv_topi (fun y_8 ey_8 => ?_)
    have u_9 : y_8.toInt = (xs (i0 + 3).toNatClampNeg).toInt := by rw [ey_8, ey_7]
    refine lv_aload_n hx hb dL_law_1034 rfl (lv_at hl 0 rfl) ?_
    refine lv_iload_n hx hb dL_law_1035 rfl (lv_at hl 3 rfl) ?_
    refine lv_iconst (v := 4) hx hb dL_law_1036 (by decide) ?_
    refine lv_iadd hx hb dL_law_1037 ?_
    refine lv_topi (fun y_10 ey_10 => ?_)
    have ty_10 : y_10.toInt = i0.toInt + 4 := xI_add rfl rfl ey_10 (by omega) (by omega)
    refine va_sld hx hb hX hbl hbA hS (vin (by omega) (by omega)) dL_law_1038 ?_
    refine lv_topi (fun y_11 ey_11 => ?_)
    have u_12 : y_11.toInt = (xs (i0 + 4).toNatClampNeg).toInt := by rw [ey_11, ey_10]
    refine lv_aload_n hx hb dL_law_1039 rfl (lv_at hl 0 rfl) ?_
    refine lv_iload_n hx hb dL_law_1040 rfl (lv_at hl 3 rfl) ?_
    refine lv_iconst (v := 5) hx hb dL_law_1041 (by decide) ?_
    refine lv_iadd hx hb dL_law_1042 ?_
    refine lv_topi (fun y_13 ey_13 => ?_)
    have ty_13 : y_13.toInt = i0.toInt + 5 := xI_add rfl rfl ey_13 (by omega) (by omega)
    refine va_sld hx hb hX hbl hbA hS (vin (by omega) (by omega)) dL_law_1043 ?_
    refine lv_topi (fun y_14 ey_14 => ?_)
    have u_15 : y_14.toInt = (xs (i0 + 5).toNatClampNeg).toInt := by rw [ey_14, ey_13]
    refine S_calll (va_runV (As := [.int y_2, .int y_5, .int y_8, .int y_11, .int y_14]) (rest := []) ⟨hx, hb, hml, hown, hts⟩ (k_Wbrave_2 l D k A a z G y_2 y_5 y_8 y_11 y_14 hv_0_0 hv_0_1 hv_6_4) (cwV 5 hts (gd_V hgd m1113 m1114 m1115 m117 m1116) rfl rfl rfl (by decide +kernel) ⟨Nat.le_of_ble_eq_true rfl, Nat.le_of_ble_eq_true rfl⟩) (pre_V hW hB_G hK hZ hS kd_0 rfl) rfl rfl hl.1 rfl (lv_room (Nat.le_of_ble_eq_true rfl)) dL_law_1044 ⟨Nat.le_of_ble_eq_true rfl, Nat.le_of_ble_eq_true rfl⟩) hS (fun r_16 G_17 H locs hpo hW hS => ?_)
    have hX_20 : P_Wbrave_2 y_2 y_5 y_8 y_11 y_14 G r_16 G_17 := hpo
    obtain ⟨hB_G_17, hq_18, -⟩ := hpo
    refine lv_pop2_2 hx hb dL_law_1047 rfl ?_
    refine lv_aload_n hx hb dL_law_1048 rfl (lv_at hl 2 rfl) ?_
    refine lv_aload_n hx hb dL_law_1049 rfl (lv_at hl 0 rfl) ?_
    refine lv_iload_n hx hb dL_law_1050 rfl (lv_at hl 3 rfl) ?_
    refine lv_iconst (v := 1) hx hb dL_law_1051 (by decide) ?_
    refine lv_iadd hx hb dL_law_1052 ?_
    refine lv_topi (fun y_21 ey_21 => ?_)
    have ty_21 : y_21.toInt = i0.toInt + 1 := xI_add rfl rfl ey_21 (by omega) (by omega)
    refine va_sld hx hb hX hbl hbA hS (vin (by omega) (by omega)) dL_law_1053 ?_
    refine lv_topi (fun y_22 ey_22 => ?_)
    have u_23 : y_22.toInt = (xs (i0 + 1).toNatClampNeg).toInt := by rw [ey_22, ey_21]
    refine lv_aload_n hx hb dL_law_1054 rfl (lv_at hl 0 rfl) ?_
    refine lv_iload_n hx hb dL_law_1055 rfl (lv_at hl 3 rfl) ?_
    refine lv_iconst (v := 2) hx hb dL_law_1056 (by decide) ?_
    refine lv_iadd hx hb dL_law_1057 ?_
    refine lv_topi (fun y_24 ey_24 => ?_)
    have ty_24 : y_24.toInt = i0.toInt + 2 := xI_add rfl rfl ey_24 (by omega) (by omega)
    refine va_sld hx hb hX hbl hbA hS (vin (by omega) (by omega)) dL_law_1058 ?_
    refine lv_topi (fun y_25 ey_25 => ?_)
    have u_26 : y_25.toInt = (xs (i0 + 2).toNatClampNeg).toInt := by rw [ey_25, ey_24]
    refine lv_aload_n hx hb dL_law_1059 rfl (lv_at hl 0 rfl) ?_
    refine lv_iload_n hx hb dL_law_1060 rfl (lv_at hl 3 rfl) ?_
    refine lv_iconst (v := 3) hx hb dL_law_1061 (by decide) ?_
    refine lv_iadd hx hb dL_law_1062 ?_
    refine lv_topi (fun y_27 ey_27 => ?_)
    have ty_27 : y_27.toInt = i0.toInt + 3 := xI_add rfl rfl ey_27 (by omega) (by omega)
    refine va_sld hx hb hX hbl hbA hS (vin (by omega) (by omega)) dL_law_1063 ?_
    refine lv_topi (fun y_28 ey_28 => ?_)
    have u_29 : y_28.toInt = (xs (i0 + 3).toNatClampNeg).toInt := by rw [ey_28, ey_27]
    refine lv_aload_n hx hb dL_law_1064 rfl (lv_at hl 0 rfl) ?_
    refine lv_iload_n hx hb dL_law_1065 rfl (lv_at hl 3 rfl) ?_
    refine lv_iconst (v := 4) hx hb dL_law_1066 (by decide) ?_
    refine lv_iadd hx hb dL_law_1067 ?_
    refine lv_topi (fun y_30 ey_30 => ?_)
    have ty_30 : y_30.toInt = i0.toInt + 4 := xI_add rfl rfl ey_30 (by omega) (by omega)
    refine va_sld hx hb hX hbl hbA hS (vin (by omega) (by omega)) dL_law_1068 ?_
    refine lv_topi (fun y_31 ey_31 => ?_)
    have u_32 : y_31.toInt = (xs (i0 + 4).toNatClampNeg).toInt := by rw [ey_31, ey_30]
    refine lv_aload_n hx hb dL_law_1069 rfl (lv_at hl 0 rfl) ?_
    refine lv_iload_n hx hb dL_law_1070 rfl (lv_at hl 3 rfl) ?_
    refine lv_iconst (v := 5) hx hb dL_law_1071 (by decide) ?_
    refine lv_iadd hx hb dL_law_1072 ?_
    refine lv_topi (fun y_33 ey_33 => ?_)
    have ty_33 : y_33.toInt = i0.toInt + 5 := xI_add rfl rfl ey_33 (by omega) (by omega)
    refine va_sld hx hb hX hbl hbA hS (vin (by omega) (by omega)) dL_law_1073 ?_
    refine lv_topi (fun y_34 ey_34 => ?_)
    have u_35 : y_34.toInt = (xs (i0 + 5).toNatClampNeg).toInt := by rw [ey_34, ey_33]
    have g_36 : gP G_17 = gP G := gP_fr (rs := [37, 38, 39, 40, 56, 57]) (fs := [(6, 3), (7, 1), (7, 2), (7, 3), (7, 4), (7, 5), (7, 6), (7, 7), (29, 6)]) (Fr.rf.call hq_18 (by decide) (by decide)) (by decide) (by decide)
    have g_37 : gW G_17 = gW G := gW_fr (rs := [37, 38, 39, 40, 56, 57]) (fs := [(6, 3), (7, 1), (7, 2), (7, 3), (7, 4), (7, 5), (7, 6), (7, 7), (29, 6)]) (Fr.rf.call hq_18 (by decide) (by decide)) (by decide) (by decide)
    have g_38 : gO G_17 = gO G := gO_fr (rs := [37, 38, 39, 40, 56, 57]) (fs := [(6, 3), (7, 1), (7, 2), (7, 3), (7, 4), (7, 5), (7, 6), (7, 7), (29, 6)]) (Fr.rf.call hq_18 (by decide) (by decide)) (by decide) (by decide)
    refine S_calll (va_runV (As := [.int y_22, .int y_25, .int y_28, .int y_31, .int y_34]) (rest := []) ⟨hx, hb, hml, hown, hts⟩ (n_brave l D k A a z G_17 y_22 y_25 y_28 y_31 y_34 (by omega) (by omega) (by omega)) (cwV 5 hts (gd_V hgd m1939 m1940 m1941 m131 m1942) rfl rfl rfl (by decide +kernel) ⟨Nat.le_of_ble_eq_true rfl, Nat.le_of_ble_eq_true rfl⟩) (pre_V hW hB_G_17 hK hZ hS kd_66 rfl) rfl rfl hl.1 rfl (lv_room (Nat.le_of_ble_eq_true rfl)) dL_law_1074 ⟨Nat.le_of_ble_eq_true rfl, Nat.le_of_ble_eq_true rfl⟩) hS (fun r_39 G_40 H locs hpo hW hS => ?_)
    have hX_43 : Q_brave y_22 y_25 y_28 y_31 y_34 G_17 r_39 G_40 := hpo
    obtain ⟨hB_G_40, hq_41, hp_42, -⟩ := hpo
    have u_44 := L_brave_2 hX_20 hX_43 (by omega) (by omega) (by omega) (by omega) (by omega) (by omega)
    refine lv_pop2_2 hx hb dL_law_1077 rfl ?_
    refine lv_goto (tgt := 1641) hx hb dL_law_1078 (by decide) ?_
    have g_45 : gP G_40 = gP G := gP_fr (rs := [37, 38, 39, 40, 56, 57, 76, 97, 98, 106]) (fs := [(6, 3), (7, 1), (7, 2), (7, 3), (7, 4), (7, 5), (7, 6), (7, 7), (29, 6), (66, 59), (66, 60), (66, 61), (66, 62), (66, 63)]) ((Fr.rf.call hq_18 (by decide) (by decide)).call hq_41 (by decide) (by decide)) (by decide) (by decide)
    have g_46 : gS G_40 = gS G := gS_fr (rs := [37, 38, 39, 40, 56, 57, 76, 97, 98, 106]) (fs := [(6, 3), (7, 1), (7, 2), (7, 3), (7, 4), (7, 5), (7, 6), (7, 7), (29, 6), (66, 59), (66, 60), (66, 61), (66, 62), (66, 63)]) ((Fr.rf.call hq_18 (by decide) (by decide)).call hq_41 (by decide) (by decide)) (by decide) (by decide)
    have g_47 : gTE G_40 = gTE G := gTE_fr (rs := [37, 38, 39, 40, 56, 57, 76, 97, 98, 106]) (fs := [(6, 3), (7, 1), (7, 2), (7, 3), (7, 4), (7, 5), (7, 6), (7, 7), (29, 6), (66, 59), (66, 60), (66, 61), (66, 62), (66, 63)]) ((Fr.rf.call hq_18 (by decide) (by decide)).call hq_41 (by decide) (by decide)) (by decide) (by decide)
    have g_48 : gW G_40 = gW G := gW_fr (rs := [37, 38, 39, 40, 56, 57, 76, 97, 98, 106]) (fs := [(6, 3), (7, 1), (7, 2), (7, 3), (7, 4), (7, 5), (7, 6), (7, 7), (29, 6), (66, 59), (66, 60), (66, 61), (66, 62), (66, 63)]) ((Fr.rf.call hq_18 (by decide) (by decide)).call hq_41 (by decide) (by decide)) (by decide) (by decide)
    have b_49 : 0 ≤ (G.1 0 11).toInt ∧ (G.1 0 11).toInt ≤ 1600 := hB_G.i 0 11 rfl rfl
    have g_50 : (G_40.1 0 11).toInt = (G.1 0 11).toInt := by rw [show G_40.1 0 11 = (G.1 0 11) from ((hq_41.i 0 11 (by decide) (by decide)).trans (hq_18.i 0 11 (by decide) (by decide)))]
    have b_51 : 0 ≤ (G.1 3 7).toInt ∧ (G.1 3 7).toInt ≤ 4 := hB_G.i 3 7 rfl rfl
    have g_52 : (G_40.1 3 7).toInt = (G.1 3 7).toInt := by rw [show G_40.1 3 7 = (G.1 3 7) from ((hq_41.i 3 7 (by decide) (by decide)).trans (hq_18.i 3 7 (by decide) (by decide)))]
    have b_53 : (-1) ≤ (G.1 3 8).toInt ∧ (G.1 3 8).toInt ≤ 1600 := hB_G.i 3 8 rfl rfl
    have g_54 : (G_40.1 3 8).toInt = (G.1 3 8).toInt := by rw [show G_40.1 3 8 = (G.1 3 8) from ((hq_41.i 3 8 (by decide) (by decide)).trans (hq_18.i 3 8 (by decide) (by decide)))]
    have b_55 : 0 ≤ (G.1 30 4).toInt ∧ (G.1 30 4).toInt ≤ 40 := hB_G.i 30 4 rfl rfl
    have g_56 : (G_40.1 30 4).toInt = (G.1 30 4).toInt := by rw [show G_40.1 30 4 = (G.1 30 4) from ((hq_41.i 30 4 (by decide) (by decide)).trans (hq_18.i 30 4 (by decide) (by decide)))]
    have b_57 : 0 ≤ (G.1 30 5).toInt ∧ (G.1 30 5).toInt ≤ 40 := hB_G.i 30 5 rfl rfl
    have g_58 : (G_40.1 30 5).toInt = (G.1 30 5).toInt := by rw [show G_40.1 30 5 = (G.1 30 5) from ((hq_41.i 30 5 (by decide) (by decide)).trans (hq_18.i 30 5 (by decide) (by decide)))]
    have b_59 : 0 ≤ (G.1 31 6).toInt ∧ (G.1 31 6).toInt ≤ 100000 := hB_G.i 31 6 rfl rfl
    have g_60 : (G_40.1 31 6).toInt = (G.1 31 6).toInt := by rw [show G_40.1 31 6 = (G.1 31 6) from ((hq_41.i 31 6 (by decide) (by decide)).trans (hq_18.i 31 6 (by decide) (by decide)))]
    have b_61 : 0 ≤ (G.1 66 1).toInt ∧ (G.1 66 1).toInt ≤ 1600 := hB_G.i 66 1 rfl rfl
    have g_62 : (G_40.1 66 1).toInt = (G.1 66 1).toInt := by rw [show G_40.1 66 1 = (G.1 66 1) from ((hq_41.i 66 1 (by decide) (by decide)).trans (hq_18.i 66 1 (by decide) (by decide)))]
    have b_63 : 0 ≤ (G.1 66 2).toInt ∧ (G.1 66 2).toInt ≤ 4 := hB_G.i 66 2 rfl rfl
    have g_64 : (G_40.1 66 2).toInt = (G.1 66 2).toInt := by rw [show G_40.1 66 2 = (G.1 66 2) from ((hq_41.i 66 2 (by decide) (by decide)).trans (hq_18.i 66 2 (by decide) (by decide)))]
    have b_65 : (-1) ≤ (G.1 66 3).toInt ∧ (G.1 66 3).toInt ≤ 1600 := hB_G.i 66 3 rfl rfl
    have g_66 : (G_40.1 66 3).toInt = (G.1 66 3).toInt := by rw [show G_40.1 66 3 = (G.1 66 3) from ((hq_41.i 66 3 (by decide) (by decide)).trans (hq_18.i 66 3 (by decide) (by decide)))]
    have b_67 : 0 ≤ (G.1 66 78).toInt ∧ (G.1 66 78).toInt ≤ 40 := hB_G.i 66 78 rfl rfl
    have g_68 : (G_40.1 66 78).toInt = (G.1 66 78).toInt := by rw [show G_40.1 66 78 = (G.1 66 78) from ((hq_41.i 66 78 (by decide) (by decide)).trans (hq_18.i 66 78 (by decide) (by decide)))]
    have b_69 : 0 ≤ (G.1 66 79).toInt ∧ (G.1 66 79).toInt ≤ 40 := hB_G.i 66 79 rfl rfl
    have g_70 : (G_40.1 66 79).toInt = (G.1 66 79).toInt := by rw [show G_40.1 66 79 = (G.1 66 79) from ((hq_41.i 66 79 (by decide) (by decide)).trans (hq_18.i 66 79 (by decide) (by decide)))]
    have b_71 : 0 ≤ (G.1 66 86).toInt ∧ (G.1 66 86).toInt ≤ 100000 := hB_G.i 66 86 rfl rfl
    have g_72 : (G_40.1 66 86).toInt = (G.1 66 86).toInt := by rw [show G_40.1 66 86 = (G.1 66 86) from ((hq_41.i 66 86 (by decide) (by decide)).trans (hq_18.i 66 86 (by decide) (by decide)))]
    have b_73 : 0 ≤ (G.1 96 0).toInt ∧ (G.1 96 0).toInt ≤ 9 := hB_G.i 96 0 rfl rfl
    have g_74 : (G_40.1 96 0).toInt = (G.1 96 0).toInt := by rw [show G_40.1 96 0 = (G.1 96 0) from ((hq_41.i 96 0 (by decide) (by decide)).trans (hq_18.i 96 0 (by decide) (by decide)))]
    have b_75 : 0 ≤ (G.1 96 1).toInt ∧ (G.1 96 1).toInt ≤ 9 := hB_G.i 96 1 rfl rfl
    have g_76 : (G_40.1 96 1).toInt = (G.1 96 1).toInt := by rw [show G_40.1 96 1 = (G.1 96 1) from ((hq_41.i 96 1 (by decide) (by decide)).trans (hq_18.i 96 1 (by decide) (by decide)))]
    have b_77 : 0 ≤ (G.1 96 2).toInt ∧ (G.1 96 2).toInt ≤ 9 := hB_G.i 96 2 rfl rfl
    have g_78 : (G_40.1 96 2).toInt = (G.1 96 2).toInt := by rw [show G_40.1 96 2 = (G.1 96 2) from ((hq_41.i 96 2 (by decide) (by decide)).trans (hq_18.i 96 2 (by decide) (by decide)))]
    exact K G_40 _ _ _ (Or.inr ⟨((((hq_41.r 0 0 (by decide) (by decide)).trans (hq_18.r 0 0 (by decide) (by decide)))).trans (hv_0_0)), ((((hq_41.r 0 1 (by decide) (by decide)).trans (hq_18.r 0 1 (by decide) (by decide)))).trans (hv_0_1)), ((((hq_41.r 6 4 (by decide) (by decide)).trans (hq_18.r 6 4 (by decide) (by decide)))).trans (hv_6_4)), by omega, by omega, by omega, by omega, by omega, by omega, by omega, by omega, by omega, by omega, by omega, by omega, by omega⟩) hB_G_40 hW hS (lv_sub hl [0, 1, 2, 3] rfl)

set_option maxHeartbeats 4000000 in
set_option maxRecDepth 100000 in
theorem law_19 {p : Program} {l : Launch} {e : Env} {s : State} {m : MethodId} {below : List Frame} {meth : Method} {c : Code} {D : va_G} {k : KT} {A : Nat → Prop} {a : Nat → Nat} {z : SK} {b L : Nat} {xs : Nat → Int32} (hL : L ≤ 3072) (C0 : lw_At p s m meth c b L xs) (hK : cK D k s) (hZ : Sx A z s) (hbA : ¬ A b) {G : GS} {i0 : Int32} (hi0 : 0 ≤ i0.toInt) (hi6 : i0.toInt + 6 ≤ L) (hI : LI G) (hB_G : Bd G) {H : Heap} {locs : List Loc} {ls : Array Slot} (hW : Wd D k A a G H) (hS : va_S A s.heap H locs) (hl : lv_has ls 4 [(0, .ref b), (1, .ref (a 0)), (2, .ref (a 66)), (3, .int i0)]) (K : ∀ (G1 : GS) (H1 : Heap) (locs1 : List Loc) (ls1 : Array Slot), LI G1 → Bd G1 → Wd D k A a G1 H1 → va_S A s.heap H1 locs1 → lv_has ls1 4 [(0, .ref b), (1, .ref (a 0)), (2, .ref (a 66)), (3, .int i0)] → W p l e room_1 s m #[Value.ref b] below meth c H1 locs1 119 46443 (lw_Z below #[Value.ref b] s) (F0 m 1641 ls1 [])) : W p l e room_1 s m #[Value.ref b] below meth c H locs 119 46443 (lw_Z below #[Value.ref b] s) (F0 m 1081 ls []) := by
  obtain ⟨hx, hb, hr, hml, hown, hts, hX, hbl, hlocks, hgv⟩ := id C0
  have hown : s.vm.findClass RL = some m.cls := hown
  have hgd : ∀ w ∈ gd, w ∈ lw_tbl := fun w h => (List.mem_filter.mp h).1
  have hg : ∀ w ∈ gd, w.before #[Value.ref b] s = true := fun w h => hts w (hgd w h)
  rcases hI with ⟨hv_0_0, hv_0_1, hv_6_4, hj0, hj1, hj2, hj3, hj4, hj5, hj6, hj7, hj8, hj9, hj10, hj11⟩ | ⟨hv_0_0, hv_0_1, hv_6_4, hj0, hj1, hj2, hj3, hj4, hj5, hj6, hj7, hj8, hj9, hj10, hj11⟩
  · skip
    refine lv_aload_n hx hb dL_law_1081 rfl (lv_at hl 1 rfl) ?_
    refine lv_aload_n hx hb dL_law_1082 rfl (lv_at hl 0 rfl) ?_
    refine lv_iload_n hx hb dL_law_1083 rfl (lv_at hl 3 rfl) ?_
    refine lv_iconst (v := 1) hx hb dL_law_1084 (by decide) ?_
    refine lv_iadd hx hb dL_law_1085 ?_
    refine lv_topi (fun y_1 ey_1 => ?_)
    have ty_1 : y_1.toInt = i0.toInt + 1 := xI_add rfl rfl ey_1 (by omega) (by omega)
    refine va_sld hx hb hX hbl hbA hS (vin (by omega) (by omega)) dL_law_1086 ?_
    refine lv_topi (fun y_2 ey_2 => ?_)
    have u_3 : y_2.toInt = (xs (i0 + 1).toNatClampNeg).toInt := by rw [ey_2, ey_1]
    refine lv_aload_n hx hb dL_law_1087 rfl (lv_at hl 0 rfl) ?_
    refine lv_iload_n hx hb dL_law_1088 rfl (lv_at hl 3 rfl) ?_
    refine lv_iconst (v := 2) hx hb dL_law_1089 (by decide) ?_
    refine lv_iadd hx hb dL_law_1090 ?_
    refine lv_topi (fun y_4 ey_4 => ?_)
    have ty_4 : y_4.toInt = i0.toInt + 2 := xI_add rfl rfl ey_4 (by omega) (by omega)
    refine va_sld hx hb hX hbl hbA hS (vin (by omega) (by omega)) dL_law_1091 ?_
    refine lv_topi (fun y_5 ey_5 => ?_)
    have u_6 : y_5.toInt = (xs (i0 + 2).toNatClampNeg).toInt := by rw [ey_5, ey_4]
    refine lv_aload_n hx hb dL_law_1092 rfl (lv_at hl 0 rfl) ?_
    refine lv_iload_n hx hb dL_law_1093 rfl (lv_at hl 3 rfl) ?_
    refine lv_iconst (v := 3) hx hb dL_law_1094 (by decide) ?_
    refine lv_iadd hx hb dL_law_1095 ?_
    refine lv_topi (fun y_7 ey_7 => ?_)
    have ty_7 : y_7.toInt = i0.toInt + 3 := xI_add rfl rfl ey_7 (by omega) (by omega)
    refine va_sld hx hb hX hbl hbA hS (vin (by omega) (by omega)) dL_law_1096 ?_
    refine lv_topi (fun y_8 ey_8 => ?_)
    have u_9 : y_8.toInt = (xs (i0 + 3).toNatClampNeg).toInt := by rw [ey_8, ey_7]
    refine lv_aload_n hx hb dL_law_1097 rfl (lv_at hl 0 rfl) ?_
    refine lv_iload_n hx hb dL_law_1098 rfl (lv_at hl 3 rfl) ?_
    refine lv_iconst (v := 4) hx hb dL_law_1099 (by decide) ?_
    refine lv_iadd hx hb dL_law_1100 ?_
    refine lv_topi (fun y_10 ey_10 => ?_)
    have ty_10 : y_10.toInt = i0.toInt + 4 := xI_add rfl rfl ey_10 (by omega) (by omega)
    refine va_sld hx hb hX hbl hbA hS (vin (by omega) (by omega)) dL_law_1101 ?_
    refine lv_topi (fun y_11 ey_11 => ?_)
    have u_12 : y_11.toInt = (xs (i0 + 4).toNatClampNeg).toInt := by rw [ey_11, ey_10]
    refine lv_aload_n hx hb dL_law_1102 rfl (lv_at hl 0 rfl) ?_
    refine lv_iload_n hx hb dL_law_1103 rfl (lv_at hl 3 rfl) ?_
    refine lv_iconst (v := 5) hx hb dL_law_1104 (by decide) ?_
    refine lv_iadd hx hb dL_law_1105 ?_
    refine lv_topi (fun y_13 ey_13 => ?_)
    have ty_13 : y_13.toInt = i0.toInt + 5 := xI_add rfl rfl ey_13 (by omega) (by omega)
    refine va_sld hx hb hX hbl hbA hS (vin (by omega) (by omega)) dL_law_1106 ?_
    refine lv_topi (fun y_14 ey_14 => ?_)
    have u_15 : y_14.toInt = (xs (i0 + 5).toNatClampNeg).toInt := by rw [ey_14, ey_13]
    refine S_calli (va_runV (As := [.int y_2, .int y_5, .int y_8, .int y_11, .int y_14]) (rest := []) ⟨hx, hb, hml, hown, hts⟩ (k_Wboldest_1 l D k A a z G y_2 y_5 y_8 y_11 y_14 hv_0_0 hv_0_1 hv_6_4) (cwV 5 hts (gd_V hgd m1134 m1135 m1136 m117 m1137) rfl rfl rfl (by decide +kernel) ⟨Nat.le_of_ble_eq_true rfl, Nat.le_of_ble_eq_true rfl⟩) (pre_V hW hB_G hK hZ hS kd_0 rfl) rfl rfl hl.1 rfl (lv_room (Nat.le_of_ble_eq_true rfl)) dL_law_1107 ⟨Nat.le_of_ble_eq_true rfl, Nat.le_of_ble_eq_true rfl⟩) hS (fun r_16 G_17 H locs hpo hW hS => ?_)
    have hX_20 : P_Wboldest_1 y_2 y_5 y_8 y_11 y_14 G r_16 G_17 := hpo
    obtain ⟨hB_G_17, hq_18, -⟩ := hpo
    refine lv_pop hx hb dL_law_1110 rfl ?_
    refine lv_aload_n hx hb dL_law_1111 rfl (lv_at hl 2 rfl) ?_
    refine lv_aload_n hx hb dL_law_1112 rfl (lv_at hl 0 rfl) ?_
    refine lv_iload_n hx hb dL_law_1113 rfl (lv_at hl 3 rfl) ?_
    refine lv_iconst (v := 1) hx hb dL_law_1114 (by decide) ?_
    refine lv_iadd hx hb dL_law_1115 ?_
    refine lv_topi (fun y_21 ey_21 => ?_)
    have ty_21 : y_21.toInt = i0.toInt + 1 := xI_add rfl rfl ey_21 (by omega) (by omega)
    refine va_sld hx hb hX hbl hbA hS (vin (by omega) (by omega)) dL_law_1116 ?_
    refine lv_topi (fun y_22 ey_22 => ?_)
    have u_23 : y_22.toInt = (xs (i0 + 1).toNatClampNeg).toInt := by rw [ey_22, ey_21]
    refine lv_aload_n hx hb dL_law_1117 rfl (lv_at hl 0 rfl) ?_
    refine lv_iload_n hx hb dL_law_1118 rfl (lv_at hl 3 rfl) ?_
    refine lv_iconst (v := 2) hx hb dL_law_1119 (by decide) ?_
    refine lv_iadd hx hb dL_law_1120 ?_
    refine lv_topi (fun y_24 ey_24 => ?_)
    have ty_24 : y_24.toInt = i0.toInt + 2 := xI_add rfl rfl ey_24 (by omega) (by omega)
    refine va_sld hx hb hX hbl hbA hS (vin (by omega) (by omega)) dL_law_1121 ?_
    refine lv_topi (fun y_25 ey_25 => ?_)
    have u_26 : y_25.toInt = (xs (i0 + 2).toNatClampNeg).toInt := by rw [ey_25, ey_24]
    refine lv_aload_n hx hb dL_law_1122 rfl (lv_at hl 0 rfl) ?_
    refine lv_iload_n hx hb dL_law_1123 rfl (lv_at hl 3 rfl) ?_
    refine lv_iconst (v := 3) hx hb dL_law_1124 (by decide) ?_
    refine lv_iadd hx hb dL_law_1125 ?_
    refine lv_topi (fun y_27 ey_27 => ?_)
    have ty_27 : y_27.toInt = i0.toInt + 3 := xI_add rfl rfl ey_27 (by omega) (by omega)
    refine va_sld hx hb hX hbl hbA hS (vin (by omega) (by omega)) dL_law_1126 ?_
    refine lv_topi (fun y_28 ey_28 => ?_)
    have u_29 : y_28.toInt = (xs (i0 + 3).toNatClampNeg).toInt := by rw [ey_28, ey_27]
    refine lv_aload_n hx hb dL_law_1127 rfl (lv_at hl 0 rfl) ?_
    refine lv_iload_n hx hb dL_law_1128 rfl (lv_at hl 3 rfl) ?_
    refine lv_iconst (v := 4) hx hb dL_law_1129 (by decide) ?_
    refine lv_iadd hx hb dL_law_1130 ?_
    refine lv_topi (fun y_30 ey_30 => ?_)
    have ty_30 : y_30.toInt = i0.toInt + 4 := xI_add rfl rfl ey_30 (by omega) (by omega)
    refine va_sld hx hb hX hbl hbA hS (vin (by omega) (by omega)) dL_law_1131 ?_
    refine lv_topi (fun y_31 ey_31 => ?_)
    have u_32 : y_31.toInt = (xs (i0 + 4).toNatClampNeg).toInt := by rw [ey_31, ey_30]
    refine lv_aload_n hx hb dL_law_1132 rfl (lv_at hl 0 rfl) ?_
    refine lv_iload_n hx hb dL_law_1133 rfl (lv_at hl 3 rfl) ?_
    refine lv_iconst (v := 5) hx hb dL_law_1134 (by decide) ?_
    refine lv_iadd hx hb dL_law_1135 ?_
    refine lv_topi (fun y_33 ey_33 => ?_)
    have ty_33 : y_33.toInt = i0.toInt + 5 := xI_add rfl rfl ey_33 (by omega) (by omega)
    refine va_sld hx hb hX hbl hbA hS (vin (by omega) (by omega)) dL_law_1136 ?_
    refine lv_topi (fun y_34 ey_34 => ?_)
    have u_35 : y_34.toInt = (xs (i0 + 5).toNatClampNeg).toInt := by rw [ey_34, ey_33]
    have g_36 : gP G_17 = gP G := gP_fr (rs := [37, 38, 39, 40, 56, 57]) (fs := [(6, 3), (7, 1), (7, 2), (7, 3), (7, 4), (7, 5), (7, 6), (7, 7), (29, 6)]) (Fr.rf.call hq_18 (by decide) (by decide)) (by decide) (by decide)
    have g_37 : gW G_17 = gW G := gW_fr (rs := [37, 38, 39, 40, 56, 57]) (fs := [(6, 3), (7, 1), (7, 2), (7, 3), (7, 4), (7, 5), (7, 6), (7, 7), (29, 6)]) (Fr.rf.call hq_18 (by decide) (by decide)) (by decide) (by decide)
    have g_38 : gO G_17 = gO G := gO_fr (rs := [37, 38, 39, 40, 56, 57]) (fs := [(6, 3), (7, 1), (7, 2), (7, 3), (7, 4), (7, 5), (7, 6), (7, 7), (29, 6)]) (Fr.rf.call hq_18 (by decide) (by decide)) (by decide) (by decide)
    refine S_calli (va_runV (As := [.int y_22, .int y_25, .int y_28, .int y_31, .int y_34]) (rest := []) ⟨hx, hb, hml, hown, hts⟩ (n_boldest l D k A a z G_17 y_22 y_25 y_28 y_31 y_34 (by omega) (by omega) (by omega)) (cwV 5 hts (gd_V hgd m1963 m1964 m1965 m131 m1966) rfl rfl rfl (by decide +kernel) ⟨Nat.le_of_ble_eq_true rfl, Nat.le_of_ble_eq_true rfl⟩) (pre_V hW hB_G_17 hK hZ hS kd_66 rfl) rfl rfl hl.1 rfl (lv_room (Nat.le_of_ble_eq_true rfl)) dL_law_1137 ⟨Nat.le_of_ble_eq_true rfl, Nat.le_of_ble_eq_true rfl⟩) hS (fun r_39 G_40 H locs hpo hW hS => ?_)
    have hX_43 : Q_boldest y_22 y_25 y_28 y_31 y_34 G_17 r_39 G_40 := hpo
    obtain ⟨hB_G_40, hq_41, hp_42, -⟩ := hpo
    have u_44 := L_boldest_1 hX_20 hX_43 (by omega) (by omega) (by omega) (by omega) (by omega) (by omega)
    refine lv_pop hx hb dL_law_1140 rfl ?_
    refine lv_goto (tgt := 1641) hx hb dL_law_1141 (by decide) ?_
    have g_45 : gP G_40 = gP G := gP_fr (rs := [37, 38, 39, 40, 56, 57, 76, 97, 98, 106]) (fs := [(6, 3), (7, 1), (7, 2), (7, 3), (7, 4), (7, 5), (7, 6), (7, 7), (29, 6), (66, 59), (66, 60), (66, 61), (66, 62), (66, 63)]) ((Fr.rf.call hq_18 (by decide) (by decide)).call hq_41 (by decide) (by decide)) (by decide) (by decide)
    have g_46 : gS G_40 = gS G := gS_fr (rs := [37, 38, 39, 40, 56, 57, 76, 97, 98, 106]) (fs := [(6, 3), (7, 1), (7, 2), (7, 3), (7, 4), (7, 5), (7, 6), (7, 7), (29, 6), (66, 59), (66, 60), (66, 61), (66, 62), (66, 63)]) ((Fr.rf.call hq_18 (by decide) (by decide)).call hq_41 (by decide) (by decide)) (by decide) (by decide)
    have g_47 : gTE G_40 = gTE G := gTE_fr (rs := [37, 38, 39, 40, 56, 57, 76, 97, 98, 106]) (fs := [(6, 3), (7, 1), (7, 2), (7, 3), (7, 4), (7, 5), (7, 6), (7, 7), (29, 6), (66, 59), (66, 60), (66, 61), (66, 62), (66, 63)]) ((Fr.rf.call hq_18 (by decide) (by decide)).call hq_41 (by decide) (by decide)) (by decide) (by decide)
    have g_48 : gW G_40 = gW G := gW_fr (rs := [37, 38, 39, 40, 56, 57, 76, 97, 98, 106]) (fs := [(6, 3), (7, 1), (7, 2), (7, 3), (7, 4), (7, 5), (7, 6), (7, 7), (29, 6), (66, 59), (66, 60), (66, 61), (66, 62), (66, 63)]) ((Fr.rf.call hq_18 (by decide) (by decide)).call hq_41 (by decide) (by decide)) (by decide) (by decide)
    have b_49 : 0 ≤ (G.1 0 11).toInt ∧ (G.1 0 11).toInt ≤ 1600 := hB_G.i 0 11 rfl rfl
    have g_50 : (G_40.1 0 11).toInt = (G.1 0 11).toInt := by rw [show G_40.1 0 11 = (G.1 0 11) from ((hq_41.i 0 11 (by decide) (by decide)).trans (hq_18.i 0 11 (by decide) (by decide)))]
    have b_51 : 0 ≤ (G.1 3 7).toInt ∧ (G.1 3 7).toInt ≤ 4 := hB_G.i 3 7 rfl rfl
    have g_52 : (G_40.1 3 7).toInt = (G.1 3 7).toInt := by rw [show G_40.1 3 7 = (G.1 3 7) from ((hq_41.i 3 7 (by decide) (by decide)).trans (hq_18.i 3 7 (by decide) (by decide)))]
    have b_53 : (-1) ≤ (G.1 3 8).toInt ∧ (G.1 3 8).toInt ≤ 1600 := hB_G.i 3 8 rfl rfl
    have g_54 : (G_40.1 3 8).toInt = (G.1 3 8).toInt := by rw [show G_40.1 3 8 = (G.1 3 8) from ((hq_41.i 3 8 (by decide) (by decide)).trans (hq_18.i 3 8 (by decide) (by decide)))]
    have b_55 : 0 ≤ (G.1 30 4).toInt ∧ (G.1 30 4).toInt ≤ 40 := hB_G.i 30 4 rfl rfl
    have g_56 : (G_40.1 30 4).toInt = (G.1 30 4).toInt := by rw [show G_40.1 30 4 = (G.1 30 4) from ((hq_41.i 30 4 (by decide) (by decide)).trans (hq_18.i 30 4 (by decide) (by decide)))]
    have b_57 : 0 ≤ (G.1 30 5).toInt ∧ (G.1 30 5).toInt ≤ 40 := hB_G.i 30 5 rfl rfl
    have g_58 : (G_40.1 30 5).toInt = (G.1 30 5).toInt := by rw [show G_40.1 30 5 = (G.1 30 5) from ((hq_41.i 30 5 (by decide) (by decide)).trans (hq_18.i 30 5 (by decide) (by decide)))]
    have b_59 : 0 ≤ (G.1 31 6).toInt ∧ (G.1 31 6).toInt ≤ 100000 := hB_G.i 31 6 rfl rfl
    have g_60 : (G_40.1 31 6).toInt = (G.1 31 6).toInt := by rw [show G_40.1 31 6 = (G.1 31 6) from ((hq_41.i 31 6 (by decide) (by decide)).trans (hq_18.i 31 6 (by decide) (by decide)))]
    have b_61 : 0 ≤ (G.1 66 1).toInt ∧ (G.1 66 1).toInt ≤ 1600 := hB_G.i 66 1 rfl rfl
    have g_62 : (G_40.1 66 1).toInt = (G.1 66 1).toInt := by rw [show G_40.1 66 1 = (G.1 66 1) from ((hq_41.i 66 1 (by decide) (by decide)).trans (hq_18.i 66 1 (by decide) (by decide)))]
    have b_63 : 0 ≤ (G.1 66 2).toInt ∧ (G.1 66 2).toInt ≤ 4 := hB_G.i 66 2 rfl rfl
    have g_64 : (G_40.1 66 2).toInt = (G.1 66 2).toInt := by rw [show G_40.1 66 2 = (G.1 66 2) from ((hq_41.i 66 2 (by decide) (by decide)).trans (hq_18.i 66 2 (by decide) (by decide)))]
    have b_65 : (-1) ≤ (G.1 66 3).toInt ∧ (G.1 66 3).toInt ≤ 1600 := hB_G.i 66 3 rfl rfl
    have g_66 : (G_40.1 66 3).toInt = (G.1 66 3).toInt := by rw [show G_40.1 66 3 = (G.1 66 3) from ((hq_41.i 66 3 (by decide) (by decide)).trans (hq_18.i 66 3 (by decide) (by decide)))]
    have b_67 : 0 ≤ (G.1 66 78).toInt ∧ (G.1 66 78).toInt ≤ 40 := hB_G.i 66 78 rfl rfl
    have g_68 : (G_40.1 66 78).toInt = (G.1 66 78).toInt := by rw [show G_40.1 66 78 = (G.1 66 78) from ((hq_41.i 66 78 (by decide) (by decide)).trans (hq_18.i 66 78 (by decide) (by decide)))]
    have b_69 : 0 ≤ (G.1 66 79).toInt ∧ (G.1 66 79).toInt ≤ 40 := hB_G.i 66 79 rfl rfl
    have g_70 : (G_40.1 66 79).toInt = (G.1 66 79).toInt := by rw [show G_40.1 66 79 = (G.1 66 79) from ((hq_41.i 66 79 (by decide) (by decide)).trans (hq_18.i 66 79 (by decide) (by decide)))]
    have b_71 : 0 ≤ (G.1 66 86).toInt ∧ (G.1 66 86).toInt ≤ 100000 := hB_G.i 66 86 rfl rfl
    have g_72 : (G_40.1 66 86).toInt = (G.1 66 86).toInt := by rw [show G_40.1 66 86 = (G.1 66 86) from ((hq_41.i 66 86 (by decide) (by decide)).trans (hq_18.i 66 86 (by decide) (by decide)))]
    have b_73 : 0 ≤ (G.1 96 0).toInt ∧ (G.1 96 0).toInt ≤ 9 := hB_G.i 96 0 rfl rfl
    have g_74 : (G_40.1 96 0).toInt = (G.1 96 0).toInt := by rw [show G_40.1 96 0 = (G.1 96 0) from ((hq_41.i 96 0 (by decide) (by decide)).trans (hq_18.i 96 0 (by decide) (by decide)))]
    have b_75 : 0 ≤ (G.1 96 1).toInt ∧ (G.1 96 1).toInt ≤ 9 := hB_G.i 96 1 rfl rfl
    have g_76 : (G_40.1 96 1).toInt = (G.1 96 1).toInt := by rw [show G_40.1 96 1 = (G.1 96 1) from ((hq_41.i 96 1 (by decide) (by decide)).trans (hq_18.i 96 1 (by decide) (by decide)))]
    have b_77 : 0 ≤ (G.1 96 2).toInt ∧ (G.1 96 2).toInt ≤ 9 := hB_G.i 96 2 rfl rfl
    have g_78 : (G_40.1 96 2).toInt = (G.1 96 2).toInt := by rw [show G_40.1 96 2 = (G.1 96 2) from ((hq_41.i 96 2 (by decide) (by decide)).trans (hq_18.i 96 2 (by decide) (by decide)))]
    exact K G_40 _ _ _ (Or.inl ⟨((((hq_41.r 0 0 (by decide) (by decide)).trans (hq_18.r 0 0 (by decide) (by decide)))).trans (hv_0_0)), ((((hq_41.r 0 1 (by decide) (by decide)).trans (hq_18.r 0 1 (by decide) (by decide)))).trans (hv_0_1)), ((((hq_41.r 6 4 (by decide) (by decide)).trans (hq_18.r 6 4 (by decide) (by decide)))).trans (hv_6_4)), by omega, by omega, by omega, by omega, by omega, by omega, by omega, by omega, by omega, by omega, by omega, by omega, by omega⟩) hB_G_40 hW hS (lv_sub hl [0, 1, 2, 3] rfl)
  · skip
    refine lv_aload_n hx hb dL_law_1081 rfl (lv_at hl 1 rfl) ?_
    refine lv_aload_n hx hb dL_law_1082 rfl (lv_at hl 0 rfl) ?_
    refine lv_iload_n hx hb dL_law_1083 rfl (lv_at hl 3 rfl) ?_
    refine lv_iconst (v := 1) hx hb dL_law_1084 (by decide) ?_
    refine lv_iadd hx hb dL_law_1085 ?_
    refine lv_topi (fun y_1 ey_1 => ?_)
    have ty_1 : y_1.toInt = i0.toInt + 1 := xI_add rfl rfl ey_1 (by omega) (by omega)
    refine va_sld hx hb hX hbl hbA hS (vin (by omega) (by omega)) dL_law_1086 ?_
    refine lv_topi (fun y_2 ey_2 => ?_)
    have u_3 : y_2.toInt = (xs (i0 + 1).toNatClampNeg).toInt := by rw [ey_2, ey_1]
    refine lv_aload_n hx hb dL_law_1087 rfl (lv_at hl 0 rfl) ?_
    refine lv_iload_n hx hb dL_law_1088 rfl (lv_at hl 3 rfl) ?_
    refine lv_iconst (v := 2) hx hb dL_law_1089 (by decide) ?_
    refine lv_iadd hx hb dL_law_1090 ?_
    refine lv_topi (fun y_4 ey_4 => ?_)
    have ty_4 : y_4.toInt = i0.toInt + 2 := xI_add rfl rfl ey_4 (by omega) (by omega)
    refine va_sld hx hb hX hbl hbA hS (vin (by omega) (by omega)) dL_law_1091 ?_
    refine lv_topi (fun y_5 ey_5 => ?_)
    have u_6 : y_5.toInt = (xs (i0 + 2).toNatClampNeg).toInt := by rw [ey_5, ey_4]
    refine lv_aload_n hx hb dL_law_1092 rfl (lv_at hl 0 rfl) ?_
    refine lv_iload_n hx hb dL_law_1093 rfl (lv_at hl 3 rfl) ?_
    refine lv_iconst (v := 3) hx hb dL_law_1094 (by decide) ?_
    refine lv_iadd hx hb dL_law_1095 ?_
    refine lv_topi (fun y_7 ey_7 => ?_)
    have ty_7 : y_7.toInt = i0.toInt + 3 := xI_add rfl rfl ey_7 (by omega) (by omega)
    refine va_sld hx hb hX hbl hbA hS (vin (by omega) (by omega)) dL_law_1096 ?_
    refine lv_topi (fun y_8 ey_8 => ?_)
    have u_9 : y_8.toInt = (xs (i0 + 3).toNatClampNeg).toInt := by rw [ey_8, ey_7]
    refine lv_aload_n hx hb dL_law_1097 rfl (lv_at hl 0 rfl) ?_
    refine lv_iload_n hx hb dL_law_1098 rfl (lv_at hl 3 rfl) ?_
    refine lv_iconst (v := 4) hx hb dL_law_1099 (by decide) ?_
    refine lv_iadd hx hb dL_law_1100 ?_
    refine lv_topi (fun y_10 ey_10 => ?_)
    have ty_10 : y_10.toInt = i0.toInt + 4 := xI_add rfl rfl ey_10 (by omega) (by omega)
    refine va_sld hx hb hX hbl hbA hS (vin (by omega) (by omega)) dL_law_1101 ?_
    refine lv_topi (fun y_11 ey_11 => ?_)
    have u_12 : y_11.toInt = (xs (i0 + 4).toNatClampNeg).toInt := by rw [ey_11, ey_10]
    refine lv_aload_n hx hb dL_law_1102 rfl (lv_at hl 0 rfl) ?_
    refine lv_iload_n hx hb dL_law_1103 rfl (lv_at hl 3 rfl) ?_
    refine lv_iconst (v := 5) hx hb dL_law_1104 (by decide) ?_
    refine lv_iadd hx hb dL_law_1105 ?_
    refine lv_topi (fun y_13 ey_13 => ?_)
    have ty_13 : y_13.toInt = i0.toInt + 5 := xI_add rfl rfl ey_13 (by omega) (by omega)
    refine va_sld hx hb hX hbl hbA hS (vin (by omega) (by omega)) dL_law_1106 ?_
    refine lv_topi (fun y_14 ey_14 => ?_)
    have u_15 : y_14.toInt = (xs (i0 + 5).toNatClampNeg).toInt := by rw [ey_14, ey_13]
    refine S_calli (va_runV (As := [.int y_2, .int y_5, .int y_8, .int y_11, .int y_14]) (rest := []) ⟨hx, hb, hml, hown, hts⟩ (k_Wboldest_2 l D k A a z G y_2 y_5 y_8 y_11 y_14 hv_0_0 hv_0_1 hv_6_4) (cwV 5 hts (gd_V hgd m1134 m1135 m1136 m117 m1137) rfl rfl rfl (by decide +kernel) ⟨Nat.le_of_ble_eq_true rfl, Nat.le_of_ble_eq_true rfl⟩) (pre_V hW hB_G hK hZ hS kd_0 rfl) rfl rfl hl.1 rfl (lv_room (Nat.le_of_ble_eq_true rfl)) dL_law_1107 ⟨Nat.le_of_ble_eq_true rfl, Nat.le_of_ble_eq_true rfl⟩) hS (fun r_16 G_17 H locs hpo hW hS => ?_)
    have hX_20 : P_Wboldest_2 y_2 y_5 y_8 y_11 y_14 G r_16 G_17 := hpo
    obtain ⟨hB_G_17, hq_18, -⟩ := hpo
    refine lv_pop hx hb dL_law_1110 rfl ?_
    refine lv_aload_n hx hb dL_law_1111 rfl (lv_at hl 2 rfl) ?_
    refine lv_aload_n hx hb dL_law_1112 rfl (lv_at hl 0 rfl) ?_
    refine lv_iload_n hx hb dL_law_1113 rfl (lv_at hl 3 rfl) ?_
    refine lv_iconst (v := 1) hx hb dL_law_1114 (by decide) ?_
    refine lv_iadd hx hb dL_law_1115 ?_
    refine lv_topi (fun y_21 ey_21 => ?_)
    have ty_21 : y_21.toInt = i0.toInt + 1 := xI_add rfl rfl ey_21 (by omega) (by omega)
    refine va_sld hx hb hX hbl hbA hS (vin (by omega) (by omega)) dL_law_1116 ?_
    refine lv_topi (fun y_22 ey_22 => ?_)
    have u_23 : y_22.toInt = (xs (i0 + 1).toNatClampNeg).toInt := by rw [ey_22, ey_21]
    refine lv_aload_n hx hb dL_law_1117 rfl (lv_at hl 0 rfl) ?_
    refine lv_iload_n hx hb dL_law_1118 rfl (lv_at hl 3 rfl) ?_
    refine lv_iconst (v := 2) hx hb dL_law_1119 (by decide) ?_
    refine lv_iadd hx hb dL_law_1120 ?_
    refine lv_topi (fun y_24 ey_24 => ?_)
    have ty_24 : y_24.toInt = i0.toInt + 2 := xI_add rfl rfl ey_24 (by omega) (by omega)
    refine va_sld hx hb hX hbl hbA hS (vin (by omega) (by omega)) dL_law_1121 ?_
    refine lv_topi (fun y_25 ey_25 => ?_)
    have u_26 : y_25.toInt = (xs (i0 + 2).toNatClampNeg).toInt := by rw [ey_25, ey_24]
    refine lv_aload_n hx hb dL_law_1122 rfl (lv_at hl 0 rfl) ?_
    refine lv_iload_n hx hb dL_law_1123 rfl (lv_at hl 3 rfl) ?_
    refine lv_iconst (v := 3) hx hb dL_law_1124 (by decide) ?_
    refine lv_iadd hx hb dL_law_1125 ?_
    refine lv_topi (fun y_27 ey_27 => ?_)
    have ty_27 : y_27.toInt = i0.toInt + 3 := xI_add rfl rfl ey_27 (by omega) (by omega)
    refine va_sld hx hb hX hbl hbA hS (vin (by omega) (by omega)) dL_law_1126 ?_
    refine lv_topi (fun y_28 ey_28 => ?_)
    have u_29 : y_28.toInt = (xs (i0 + 3).toNatClampNeg).toInt := by rw [ey_28, ey_27]
    refine lv_aload_n hx hb dL_law_1127 rfl (lv_at hl 0 rfl) ?_
    refine lv_iload_n hx hb dL_law_1128 rfl (lv_at hl 3 rfl) ?_
    refine lv_iconst (v := 4) hx hb dL_law_1129 (by decide) ?_
    refine lv_iadd hx hb dL_law_1130 ?_
    refine lv_topi (fun y_30 ey_30 => ?_)
    have ty_30 : y_30.toInt = i0.toInt + 4 := xI_add rfl rfl ey_30 (by omega) (by omega)
    refine va_sld hx hb hX hbl hbA hS (vin (by omega) (by omega)) dL_law_1131 ?_
    refine lv_topi (fun y_31 ey_31 => ?_)
    have u_32 : y_31.toInt = (xs (i0 + 4).toNatClampNeg).toInt := by rw [ey_31, ey_30]
    refine lv_aload_n hx hb dL_law_1132 rfl (lv_at hl 0 rfl) ?_
    refine lv_iload_n hx hb dL_law_1133 rfl (lv_at hl 3 rfl) ?_
    refine lv_iconst (v := 5) hx hb dL_law_1134 (by decide) ?_
    refine lv_iadd hx hb dL_law_1135 ?_
    refine lv_topi (fun y_33 ey_33 => ?_)
    have ty_33 : y_33.toInt = i0.toInt + 5 := xI_add rfl rfl ey_33 (by omega) (by omega)
    refine va_sld hx hb hX hbl hbA hS (vin (by omega) (by omega)) dL_law_1136 ?_
    refine lv_topi (fun y_34 ey_34 => ?_)
    have u_35 : y_34.toInt = (xs (i0 + 5).toNatClampNeg).toInt := by rw [ey_34, ey_33]
    have g_36 : gP G_17 = gP G := gP_fr (rs := [37, 38, 39, 40, 56, 57]) (fs := [(6, 3), (7, 1), (7, 2), (7, 3), (7, 4), (7, 5), (7, 6), (7, 7), (29, 6)]) (Fr.rf.call hq_18 (by decide) (by decide)) (by decide) (by decide)
    have g_37 : gW G_17 = gW G := gW_fr (rs := [37, 38, 39, 40, 56, 57]) (fs := [(6, 3), (7, 1), (7, 2), (7, 3), (7, 4), (7, 5), (7, 6), (7, 7), (29, 6)]) (Fr.rf.call hq_18 (by decide) (by decide)) (by decide) (by decide)
    have g_38 : gO G_17 = gO G := gO_fr (rs := [37, 38, 39, 40, 56, 57]) (fs := [(6, 3), (7, 1), (7, 2), (7, 3), (7, 4), (7, 5), (7, 6), (7, 7), (29, 6)]) (Fr.rf.call hq_18 (by decide) (by decide)) (by decide) (by decide)
    refine S_calli (va_runV (As := [.int y_22, .int y_25, .int y_28, .int y_31, .int y_34]) (rest := []) ⟨hx, hb, hml, hown, hts⟩ (n_boldest l D k A a z G_17 y_22 y_25 y_28 y_31 y_34 (by omega) (by omega) (by omega)) (cwV 5 hts (gd_V hgd m1963 m1964 m1965 m131 m1966) rfl rfl rfl (by decide +kernel) ⟨Nat.le_of_ble_eq_true rfl, Nat.le_of_ble_eq_true rfl⟩) (pre_V hW hB_G_17 hK hZ hS kd_66 rfl) rfl rfl hl.1 rfl (lv_room (Nat.le_of_ble_eq_true rfl)) dL_law_1137 ⟨Nat.le_of_ble_eq_true rfl, Nat.le_of_ble_eq_true rfl⟩) hS (fun r_39 G_40 H locs hpo hW hS => ?_)
    have hX_43 : Q_boldest y_22 y_25 y_28 y_31 y_34 G_17 r_39 G_40 := hpo
    obtain ⟨hB_G_40, hq_41, hp_42, -⟩ := hpo
    have u_44 := L_boldest_2 hX_20 hX_43 (by omega) (by omega) (by omega) (by omega) (by omega) (by omega)
    refine lv_pop hx hb dL_law_1140 rfl ?_
    refine lv_goto (tgt := 1641) hx hb dL_law_1141 (by decide) ?_
    have g_45 : gP G_40 = gP G := gP_fr (rs := [37, 38, 39, 40, 56, 57, 76, 97, 98, 106]) (fs := [(6, 3), (7, 1), (7, 2), (7, 3), (7, 4), (7, 5), (7, 6), (7, 7), (29, 6), (66, 59), (66, 60), (66, 61), (66, 62), (66, 63)]) ((Fr.rf.call hq_18 (by decide) (by decide)).call hq_41 (by decide) (by decide)) (by decide) (by decide)
    have g_46 : gS G_40 = gS G := gS_fr (rs := [37, 38, 39, 40, 56, 57, 76, 97, 98, 106]) (fs := [(6, 3), (7, 1), (7, 2), (7, 3), (7, 4), (7, 5), (7, 6), (7, 7), (29, 6), (66, 59), (66, 60), (66, 61), (66, 62), (66, 63)]) ((Fr.rf.call hq_18 (by decide) (by decide)).call hq_41 (by decide) (by decide)) (by decide) (by decide)
    have g_47 : gTE G_40 = gTE G := gTE_fr (rs := [37, 38, 39, 40, 56, 57, 76, 97, 98, 106]) (fs := [(6, 3), (7, 1), (7, 2), (7, 3), (7, 4), (7, 5), (7, 6), (7, 7), (29, 6), (66, 59), (66, 60), (66, 61), (66, 62), (66, 63)]) ((Fr.rf.call hq_18 (by decide) (by decide)).call hq_41 (by decide) (by decide)) (by decide) (by decide)
    have g_48 : gW G_40 = gW G := gW_fr (rs := [37, 38, 39, 40, 56, 57, 76, 97, 98, 106]) (fs := [(6, 3), (7, 1), (7, 2), (7, 3), (7, 4), (7, 5), (7, 6), (7, 7), (29, 6), (66, 59), (66, 60), (66, 61), (66, 62), (66, 63)]) ((Fr.rf.call hq_18 (by decide) (by decide)).call hq_41 (by decide) (by decide)) (by decide) (by decide)
    have b_49 : 0 ≤ (G.1 0 11).toInt ∧ (G.1 0 11).toInt ≤ 1600 := hB_G.i 0 11 rfl rfl
    have g_50 : (G_40.1 0 11).toInt = (G.1 0 11).toInt := by rw [show G_40.1 0 11 = (G.1 0 11) from ((hq_41.i 0 11 (by decide) (by decide)).trans (hq_18.i 0 11 (by decide) (by decide)))]
    have b_51 : 0 ≤ (G.1 3 7).toInt ∧ (G.1 3 7).toInt ≤ 4 := hB_G.i 3 7 rfl rfl
    have g_52 : (G_40.1 3 7).toInt = (G.1 3 7).toInt := by rw [show G_40.1 3 7 = (G.1 3 7) from ((hq_41.i 3 7 (by decide) (by decide)).trans (hq_18.i 3 7 (by decide) (by decide)))]
    have b_53 : (-1) ≤ (G.1 3 8).toInt ∧ (G.1 3 8).toInt ≤ 1600 := hB_G.i 3 8 rfl rfl
    have g_54 : (G_40.1 3 8).toInt = (G.1 3 8).toInt := by rw [show G_40.1 3 8 = (G.1 3 8) from ((hq_41.i 3 8 (by decide) (by decide)).trans (hq_18.i 3 8 (by decide) (by decide)))]
    have b_55 : 0 ≤ (G.1 30 4).toInt ∧ (G.1 30 4).toInt ≤ 40 := hB_G.i 30 4 rfl rfl
    have g_56 : (G_40.1 30 4).toInt = (G.1 30 4).toInt := by rw [show G_40.1 30 4 = (G.1 30 4) from ((hq_41.i 30 4 (by decide) (by decide)).trans (hq_18.i 30 4 (by decide) (by decide)))]
    have b_57 : 0 ≤ (G.1 30 5).toInt ∧ (G.1 30 5).toInt ≤ 40 := hB_G.i 30 5 rfl rfl
    have g_58 : (G_40.1 30 5).toInt = (G.1 30 5).toInt := by rw [show G_40.1 30 5 = (G.1 30 5) from ((hq_41.i 30 5 (by decide) (by decide)).trans (hq_18.i 30 5 (by decide) (by decide)))]
    have b_59 : 0 ≤ (G.1 31 6).toInt ∧ (G.1 31 6).toInt ≤ 100000 := hB_G.i 31 6 rfl rfl
    have g_60 : (G_40.1 31 6).toInt = (G.1 31 6).toInt := by rw [show G_40.1 31 6 = (G.1 31 6) from ((hq_41.i 31 6 (by decide) (by decide)).trans (hq_18.i 31 6 (by decide) (by decide)))]
    have b_61 : 0 ≤ (G.1 66 1).toInt ∧ (G.1 66 1).toInt ≤ 1600 := hB_G.i 66 1 rfl rfl
    have g_62 : (G_40.1 66 1).toInt = (G.1 66 1).toInt := by rw [show G_40.1 66 1 = (G.1 66 1) from ((hq_41.i 66 1 (by decide) (by decide)).trans (hq_18.i 66 1 (by decide) (by decide)))]
    have b_63 : 0 ≤ (G.1 66 2).toInt ∧ (G.1 66 2).toInt ≤ 4 := hB_G.i 66 2 rfl rfl
    have g_64 : (G_40.1 66 2).toInt = (G.1 66 2).toInt := by rw [show G_40.1 66 2 = (G.1 66 2) from ((hq_41.i 66 2 (by decide) (by decide)).trans (hq_18.i 66 2 (by decide) (by decide)))]
    have b_65 : (-1) ≤ (G.1 66 3).toInt ∧ (G.1 66 3).toInt ≤ 1600 := hB_G.i 66 3 rfl rfl
    have g_66 : (G_40.1 66 3).toInt = (G.1 66 3).toInt := by rw [show G_40.1 66 3 = (G.1 66 3) from ((hq_41.i 66 3 (by decide) (by decide)).trans (hq_18.i 66 3 (by decide) (by decide)))]
    have b_67 : 0 ≤ (G.1 66 78).toInt ∧ (G.1 66 78).toInt ≤ 40 := hB_G.i 66 78 rfl rfl
    have g_68 : (G_40.1 66 78).toInt = (G.1 66 78).toInt := by rw [show G_40.1 66 78 = (G.1 66 78) from ((hq_41.i 66 78 (by decide) (by decide)).trans (hq_18.i 66 78 (by decide) (by decide)))]
    have b_69 : 0 ≤ (G.1 66 79).toInt ∧ (G.1 66 79).toInt ≤ 40 := hB_G.i 66 79 rfl rfl
    have g_70 : (G_40.1 66 79).toInt = (G.1 66 79).toInt := by rw [show G_40.1 66 79 = (G.1 66 79) from ((hq_41.i 66 79 (by decide) (by decide)).trans (hq_18.i 66 79 (by decide) (by decide)))]
    have b_71 : 0 ≤ (G.1 66 86).toInt ∧ (G.1 66 86).toInt ≤ 100000 := hB_G.i 66 86 rfl rfl
    have g_72 : (G_40.1 66 86).toInt = (G.1 66 86).toInt := by rw [show G_40.1 66 86 = (G.1 66 86) from ((hq_41.i 66 86 (by decide) (by decide)).trans (hq_18.i 66 86 (by decide) (by decide)))]
    have b_73 : 0 ≤ (G.1 96 0).toInt ∧ (G.1 96 0).toInt ≤ 9 := hB_G.i 96 0 rfl rfl
    have g_74 : (G_40.1 96 0).toInt = (G.1 96 0).toInt := by rw [show G_40.1 96 0 = (G.1 96 0) from ((hq_41.i 96 0 (by decide) (by decide)).trans (hq_18.i 96 0 (by decide) (by decide)))]
    have b_75 : 0 ≤ (G.1 96 1).toInt ∧ (G.1 96 1).toInt ≤ 9 := hB_G.i 96 1 rfl rfl
    have g_76 : (G_40.1 96 1).toInt = (G.1 96 1).toInt := by rw [show G_40.1 96 1 = (G.1 96 1) from ((hq_41.i 96 1 (by decide) (by decide)).trans (hq_18.i 96 1 (by decide) (by decide)))]
    have b_77 : 0 ≤ (G.1 96 2).toInt ∧ (G.1 96 2).toInt ≤ 9 := hB_G.i 96 2 rfl rfl
    have g_78 : (G_40.1 96 2).toInt = (G.1 96 2).toInt := by rw [show G_40.1 96 2 = (G.1 96 2) from ((hq_41.i 96 2 (by decide) (by decide)).trans (hq_18.i 96 2 (by decide) (by decide)))]
    exact K G_40 _ _ _ (Or.inr ⟨((((hq_41.r 0 0 (by decide) (by decide)).trans (hq_18.r 0 0 (by decide) (by decide)))).trans (hv_0_0)), ((((hq_41.r 0 1 (by decide) (by decide)).trans (hq_18.r 0 1 (by decide) (by decide)))).trans (hv_0_1)), ((((hq_41.r 6 4 (by decide) (by decide)).trans (hq_18.r 6 4 (by decide) (by decide)))).trans (hv_6_4)), by omega, by omega, by omega, by omega, by omega, by omega, by omega, by omega, by omega, by omega, by omega, by omega, by omega⟩) hB_G_40 hW hS (lv_sub hl [0, 1, 2, 3] rfl)
