theorem m1072 : Cond.methodLink RL 79 yX11_begin ∈ gd := gd_mem 1072 (by decide +kernel) (by decide +kernel)
theorem m1073 : Cond.instanceMethod yX11_begin ∈ gd := gd_mem 1073 (by decide +kernel) (by decide +kernel)
theorem m1074 : Cond.selects RX11 yX11_begin yX11_begin ∈ gd := gd_mem 1074 (by decide +kernel) (by decide +kernel)
theorem m1075 : Cond.code yX11_begin cX11_begin 5 (some .int) ∈ gd := gd_mem 1075 (by decide +kernel) (by decide +kernel)
theorem m1083 : Cond.methodLink RL 83 yX11_suits ∈ gd := gd_mem 1083 (by decide +kernel) (by decide +kernel)
theorem m1084 : Cond.instanceMethod yX11_suits ∈ gd := gd_mem 1084 (by decide +kernel) (by decide +kernel)
theorem m1085 : Cond.selects RX11 yX11_suits yX11_suits ∈ gd := gd_mem 1085 (by decide +kernel) (by decide +kernel)
theorem m1086 : Cond.code yX11_suits cX11_suits 9 (some .long) ∈ gd := gd_mem 1086 (by decide +kernel) (by decide +kernel)
theorem m1087 : Cond.methodLink RL 88 yX11_keeps ∈ gd := gd_mem 1087 (by decide +kernel) (by decide +kernel)
theorem m1088 : Cond.instanceMethod yX11_keeps ∈ gd := gd_mem 1088 (by decide +kernel) (by decide +kernel)
theorem m1089 : Cond.selects RX11 yX11_keeps yX11_keeps ∈ gd := gd_mem 1089 (by decide +kernel) (by decide +kernel)
theorem m1090 : Cond.code yX11_keeps cX11_keeps 4 (some .int) ∈ gd := gd_mem 1090 (by decide +kernel) (by decide +kernel)
theorem m1916 : Cond.methodLink RL 82 yX12_begin ∈ gd := gd_mem 1916 (by decide +kernel) (by decide +kernel)
theorem m1917 : Cond.instanceMethod yX12_begin ∈ gd := gd_mem 1917 (by decide +kernel) (by decide +kernel)
theorem m1918 : Cond.selects RX12 yX12_begin yX12_begin ∈ gd := gd_mem 1918 (by decide +kernel) (by decide +kernel)
theorem m1919 : Cond.code yX12_begin cX12_begin 5 (some .int) ∈ gd := gd_mem 1919 (by decide +kernel) (by decide +kernel)
theorem m1923 : Cond.methodLink RL 87 yX12_suits ∈ gd := gd_mem 1923 (by decide +kernel) (by decide +kernel)
theorem m1924 : Cond.instanceMethod yX12_suits ∈ gd := gd_mem 1924 (by decide +kernel) (by decide +kernel)
theorem m1925 : Cond.selects RX12 yX12_suits yX12_suits ∈ gd := gd_mem 1925 (by decide +kernel) (by decide +kernel)
theorem m1926 : Cond.code yX12_suits cX12_suits 9 (some .long) ∈ gd := gd_mem 1926 (by decide +kernel) (by decide +kernel)
theorem m1927 : Cond.methodLink RL 91 yX12_keeps ∈ gd := gd_mem 1927 (by decide +kernel) (by decide +kernel)
theorem m1928 : Cond.instanceMethod yX12_keeps ∈ gd := gd_mem 1928 (by decide +kernel) (by decide +kernel)
theorem m1929 : Cond.selects RX12 yX12_keeps yX12_keeps ∈ gd := gd_mem 1929 (by decide +kernel) (by decide +kernel)
theorem m1930 : Cond.code yX12_keeps cX12_keeps 7 (some .int) ∈ gd := gd_mem 1930 (by decide +kernel) (by decide +kernel)
theorem dL_law_859 : decode cL_law 859 = .ok (.aload_n 1, 1) := by decide +kernel
theorem dL_law_860 : decode cL_law 860 = .ok (.aload_n 0, 1) := by decide +kernel
theorem dL_law_861 : decode cL_law 861 = .ok (.iload_n 3, 1) := by decide +kernel
theorem dL_law_862 : decode cL_law 862 = .ok (.iconst 1, 1) := by decide +kernel
theorem dL_law_863 : decode cL_law 863 = .ok (.iadd, 1) := by decide +kernel
theorem dL_law_864 : decode cL_law 864 = .ok (.iaload, 1) := by decide +kernel
theorem dL_law_865 : decode cL_law 865 = .ok (.aload_n 0, 1) := by decide +kernel
theorem dL_law_866 : decode cL_law 866 = .ok (.iload_n 3, 1) := by decide +kernel
theorem dL_law_867 : decode cL_law 867 = .ok (.iconst 2, 1) := by decide +kernel
theorem dL_law_868 : decode cL_law 868 = .ok (.iadd, 1) := by decide +kernel
theorem dL_law_869 : decode cL_law 869 = .ok (.iaload, 1) := by decide +kernel
theorem dL_law_870 : decode cL_law 870 = .ok (.aload_n 0, 1) := by decide +kernel
theorem dL_law_871 : decode cL_law 871 = .ok (.iload_n 3, 1) := by decide +kernel
theorem dL_law_872 : decode cL_law 872 = .ok (.iconst 3, 1) := by decide +kernel
theorem dL_law_873 : decode cL_law 873 = .ok (.iadd, 1) := by decide +kernel
theorem dL_law_874 : decode cL_law 874 = .ok (.iaload, 1) := by decide +kernel
theorem dL_law_875 : decode cL_law 875 = .ok (.aload_n 0, 1) := by decide +kernel
theorem dL_law_876 : decode cL_law 876 = .ok (.iload_n 3, 1) := by decide +kernel
theorem dL_law_877 : decode cL_law 877 = .ok (.iconst 4, 1) := by decide +kernel
theorem dL_law_878 : decode cL_law 878 = .ok (.iadd, 1) := by decide +kernel
theorem dL_law_879 : decode cL_law 879 = .ok (.iaload, 1) := by decide +kernel
theorem dL_law_880 : decode cL_law 880 = .ok (.invokevirtual 79, 3) := by decide +kernel
theorem dL_law_883 : decode cL_law 883 = .ok (.pop, 1) := by decide +kernel
theorem dL_law_884 : decode cL_law 884 = .ok (.aload_n 2, 1) := by decide +kernel
theorem dL_law_885 : decode cL_law 885 = .ok (.aload_n 0, 1) := by decide +kernel
theorem dL_law_886 : decode cL_law 886 = .ok (.iload_n 3, 1) := by decide +kernel
theorem dL_law_887 : decode cL_law 887 = .ok (.iconst 1, 1) := by decide +kernel
theorem dL_law_888 : decode cL_law 888 = .ok (.iadd, 1) := by decide +kernel
theorem dL_law_889 : decode cL_law 889 = .ok (.iaload, 1) := by decide +kernel
theorem dL_law_890 : decode cL_law 890 = .ok (.aload_n 0, 1) := by decide +kernel
theorem dL_law_891 : decode cL_law 891 = .ok (.iload_n 3, 1) := by decide +kernel
theorem dL_law_892 : decode cL_law 892 = .ok (.iconst 2, 1) := by decide +kernel
theorem dL_law_893 : decode cL_law 893 = .ok (.iadd, 1) := by decide +kernel
theorem dL_law_894 : decode cL_law 894 = .ok (.iaload, 1) := by decide +kernel
theorem dL_law_895 : decode cL_law 895 = .ok (.aload_n 0, 1) := by decide +kernel
theorem dL_law_896 : decode cL_law 896 = .ok (.iload_n 3, 1) := by decide +kernel
theorem dL_law_897 : decode cL_law 897 = .ok (.iconst 3, 1) := by decide +kernel
theorem dL_law_898 : decode cL_law 898 = .ok (.iadd, 1) := by decide +kernel
theorem dL_law_899 : decode cL_law 899 = .ok (.iaload, 1) := by decide +kernel
theorem dL_law_900 : decode cL_law 900 = .ok (.aload_n 0, 1) := by decide +kernel
theorem dL_law_901 : decode cL_law 901 = .ok (.iload_n 3, 1) := by decide +kernel
theorem dL_law_902 : decode cL_law 902 = .ok (.iconst 4, 1) := by decide +kernel
theorem dL_law_903 : decode cL_law 903 = .ok (.iadd, 1) := by decide +kernel
theorem dL_law_904 : decode cL_law 904 = .ok (.iaload, 1) := by decide +kernel
theorem dL_law_905 : decode cL_law 905 = .ok (.invokevirtual 82, 3) := by decide +kernel
theorem dL_law_908 : decode cL_law 908 = .ok (.pop, 1) := by decide +kernel
theorem dL_law_909 : decode cL_law 909 = .ok (.goto 733, 3) := by decide +kernel
theorem dL_law_912 : decode cL_law 912 = .ok (.aload_n 1, 1) := by decide +kernel
theorem dL_law_913 : decode cL_law 913 = .ok (.aload_n 0, 1) := by decide +kernel
theorem dL_law_914 : decode cL_law 914 = .ok (.iload_n 3, 1) := by decide +kernel
theorem dL_law_915 : decode cL_law 915 = .ok (.iconst 1, 1) := by decide +kernel
theorem dL_law_916 : decode cL_law 916 = .ok (.iadd, 1) := by decide +kernel
theorem dL_law_917 : decode cL_law 917 = .ok (.iaload, 1) := by decide +kernel
theorem dL_law_918 : decode cL_law 918 = .ok (.aload_n 0, 1) := by decide +kernel
theorem dL_law_919 : decode cL_law 919 = .ok (.iload_n 3, 1) := by decide +kernel
theorem dL_law_920 : decode cL_law 920 = .ok (.iconst 2, 1) := by decide +kernel
theorem dL_law_921 : decode cL_law 921 = .ok (.iadd, 1) := by decide +kernel
theorem dL_law_922 : decode cL_law 922 = .ok (.iaload, 1) := by decide +kernel
theorem dL_law_923 : decode cL_law 923 = .ok (.aload_n 0, 1) := by decide +kernel
theorem dL_law_924 : decode cL_law 924 = .ok (.iload_n 3, 1) := by decide +kernel
theorem dL_law_925 : decode cL_law 925 = .ok (.iconst 3, 1) := by decide +kernel
theorem dL_law_926 : decode cL_law 926 = .ok (.iadd, 1) := by decide +kernel
theorem dL_law_927 : decode cL_law 927 = .ok (.iaload, 1) := by decide +kernel
theorem dL_law_928 : decode cL_law 928 = .ok (.aload_n 0, 1) := by decide +kernel
theorem dL_law_929 : decode cL_law 929 = .ok (.iload_n 3, 1) := by decide +kernel
theorem dL_law_930 : decode cL_law 930 = .ok (.iconst 4, 1) := by decide +kernel
theorem dL_law_931 : decode cL_law 931 = .ok (.iadd, 1) := by decide +kernel
theorem dL_law_932 : decode cL_law 932 = .ok (.iaload, 1) := by decide +kernel
theorem dL_law_933 : decode cL_law 933 = .ok (.aload_n 0, 1) := by decide +kernel
theorem dL_law_934 : decode cL_law 934 = .ok (.iload_n 3, 1) := by decide +kernel
theorem dL_law_935 : decode cL_law 935 = .ok (.iconst 5, 1) := by decide +kernel
theorem dL_law_936 : decode cL_law 936 = .ok (.iadd, 1) := by decide +kernel
theorem dL_law_937 : decode cL_law 937 = .ok (.iaload, 1) := by decide +kernel
theorem dL_law_938 : decode cL_law 938 = .ok (.invokevirtual 83, 3) := by decide +kernel
theorem dL_law_941 : decode cL_law 941 = .ok (.aload_n 2, 1) := by decide +kernel
theorem dL_law_942 : decode cL_law 942 = .ok (.aload_n 0, 1) := by decide +kernel
theorem dL_law_943 : decode cL_law 943 = .ok (.iload_n 3, 1) := by decide +kernel
theorem dL_law_944 : decode cL_law 944 = .ok (.iconst 1, 1) := by decide +kernel
theorem dL_law_945 : decode cL_law 945 = .ok (.iadd, 1) := by decide +kernel
theorem dL_law_946 : decode cL_law 946 = .ok (.iaload, 1) := by decide +kernel
theorem dL_law_947 : decode cL_law 947 = .ok (.aload_n 0, 1) := by decide +kernel
theorem dL_law_948 : decode cL_law 948 = .ok (.iload_n 3, 1) := by decide +kernel
theorem dL_law_949 : decode cL_law 949 = .ok (.iconst 2, 1) := by decide +kernel
theorem dL_law_950 : decode cL_law 950 = .ok (.iadd, 1) := by decide +kernel
theorem dL_law_951 : decode cL_law 951 = .ok (.iaload, 1) := by decide +kernel
theorem dL_law_952 : decode cL_law 952 = .ok (.aload_n 0, 1) := by decide +kernel
theorem dL_law_953 : decode cL_law 953 = .ok (.iload_n 3, 1) := by decide +kernel
theorem dL_law_954 : decode cL_law 954 = .ok (.iconst 3, 1) := by decide +kernel
theorem dL_law_955 : decode cL_law 955 = .ok (.iadd, 1) := by decide +kernel
theorem dL_law_956 : decode cL_law 956 = .ok (.iaload, 1) := by decide +kernel
theorem dL_law_957 : decode cL_law 957 = .ok (.aload_n 0, 1) := by decide +kernel
theorem dL_law_958 : decode cL_law 958 = .ok (.iload_n 3, 1) := by decide +kernel
theorem dL_law_959 : decode cL_law 959 = .ok (.iconst 4, 1) := by decide +kernel
theorem dL_law_960 : decode cL_law 960 = .ok (.iadd, 1) := by decide +kernel
theorem dL_law_961 : decode cL_law 961 = .ok (.iaload, 1) := by decide +kernel
theorem dL_law_962 : decode cL_law 962 = .ok (.aload_n 0, 1) := by decide +kernel
theorem dL_law_963 : decode cL_law 963 = .ok (.iload_n 3, 1) := by decide +kernel
theorem dL_law_964 : decode cL_law 964 = .ok (.iconst 5, 1) := by decide +kernel
theorem dL_law_965 : decode cL_law 965 = .ok (.iadd, 1) := by decide +kernel
theorem dL_law_966 : decode cL_law 966 = .ok (.iaload, 1) := by decide +kernel
theorem dL_law_967 : decode cL_law 967 = .ok (.invokevirtual 87, 3) := by decide +kernel
theorem dL_law_970 : decode cL_law 970 = .ok (.lcmp, 1) := by decide +kernel
theorem dL_law_971 : decode cL_law 971 = .ok (.ifCond .eq 671, 3) := by decide +kernel
theorem dL_law_976 : decode cL_law 976 = .ok (.aload_n 1, 1) := by decide +kernel
theorem dL_law_977 : decode cL_law 977 = .ok (.aload_n 0, 1) := by decide +kernel
theorem dL_law_978 : decode cL_law 978 = .ok (.iload_n 3, 1) := by decide +kernel
theorem dL_law_979 : decode cL_law 979 = .ok (.iconst 1, 1) := by decide +kernel
theorem dL_law_980 : decode cL_law 980 = .ok (.iadd, 1) := by decide +kernel
theorem dL_law_981 : decode cL_law 981 = .ok (.iaload, 1) := by decide +kernel
theorem dL_law_982 : decode cL_law 982 = .ok (.aload_n 0, 1) := by decide +kernel
theorem dL_law_983 : decode cL_law 983 = .ok (.iload_n 3, 1) := by decide +kernel
theorem dL_law_984 : decode cL_law 984 = .ok (.iconst 2, 1) := by decide +kernel
theorem dL_law_985 : decode cL_law 985 = .ok (.iadd, 1) := by decide +kernel
theorem dL_law_986 : decode cL_law 986 = .ok (.iaload, 1) := by decide +kernel
theorem dL_law_987 : decode cL_law 987 = .ok (.aload_n 0, 1) := by decide +kernel
theorem dL_law_988 : decode cL_law 988 = .ok (.iload_n 3, 1) := by decide +kernel
theorem dL_law_989 : decode cL_law 989 = .ok (.iconst 3, 1) := by decide +kernel
theorem dL_law_990 : decode cL_law 990 = .ok (.iadd, 1) := by decide +kernel
theorem dL_law_991 : decode cL_law 991 = .ok (.iaload, 1) := by decide +kernel
theorem dL_law_992 : decode cL_law 992 = .ok (.invokevirtual 88, 3) := by decide +kernel
theorem dL_law_995 : decode cL_law 995 = .ok (.pop, 1) := by decide +kernel
theorem dL_law_996 : decode cL_law 996 = .ok (.aload_n 2, 1) := by decide +kernel
theorem dL_law_997 : decode cL_law 997 = .ok (.aload_n 0, 1) := by decide +kernel
theorem dL_law_998 : decode cL_law 998 = .ok (.iload_n 3, 1) := by decide +kernel
theorem dL_law_999 : decode cL_law 999 = .ok (.iconst 1, 1) := by decide +kernel
theorem dL_law_1000 : decode cL_law 1000 = .ok (.iadd, 1) := by decide +kernel
theorem dL_law_1001 : decode cL_law 1001 = .ok (.iaload, 1) := by decide +kernel
theorem dL_law_1002 : decode cL_law 1002 = .ok (.aload_n 0, 1) := by decide +kernel
theorem dL_law_1003 : decode cL_law 1003 = .ok (.iload_n 3, 1) := by decide +kernel
theorem dL_law_1004 : decode cL_law 1004 = .ok (.iconst 2, 1) := by decide +kernel
theorem dL_law_1005 : decode cL_law 1005 = .ok (.iadd, 1) := by decide +kernel
theorem dL_law_1006 : decode cL_law 1006 = .ok (.iaload, 1) := by decide +kernel
theorem dL_law_1007 : decode cL_law 1007 = .ok (.aload_n 0, 1) := by decide +kernel
theorem dL_law_1008 : decode cL_law 1008 = .ok (.iload_n 3, 1) := by decide +kernel
theorem dL_law_1009 : decode cL_law 1009 = .ok (.iconst 3, 1) := by decide +kernel
theorem dL_law_1010 : decode cL_law 1010 = .ok (.iadd, 1) := by decide +kernel
theorem dL_law_1011 : decode cL_law 1011 = .ok (.iaload, 1) := by decide +kernel
theorem dL_law_1012 : decode cL_law 1012 = .ok (.invokevirtual 91, 3) := by decide +kernel
theorem dL_law_1015 : decode cL_law 1015 = .ok (.pop, 1) := by decide +kernel
theorem dL_law_1016 : decode cL_law 1016 = .ok (.goto 626, 3) := by decide +kernel
set_option maxHeartbeats 4000000 in
set_option maxRecDepth 100000 in
theorem law_15 {p : Program} {l : Launch} {e : Env} {s : State} {m : MethodId} {below : List Frame} {meth : Method} {c : Code} {D : va_G} {k : KT} {A : Nat → Prop} {a : Nat → Nat} {z : SK} {b L : Nat} {xs : Nat → Int32} (hL : L ≤ 3072) (C0 : lw_At p s m meth c b L xs) (hK : cK D k s) (hZ : Sx A z s) (hbA : ¬ A b) (hA : ∀ q : Nat, s.heap.size ≤ q → A q) {G : GS} {i0 : Int32} (hi0 : 0 ≤ i0.toInt) (hi6 : i0.toInt + 6 ≤ L) (hI : LI G) (hB_G : Bd G) {H : Heap} {locs : List Loc} {ls : Array Slot} (hW : Wd D k A a G H) (hS : va_S A s.heap H locs) (hl : lv_has ls 4 [(0, .ref b), (1, .ref (a 0)), (2, .ref (a 66)), (3, .int i0)]) (K : ∀ (G1 : GS) (H1 : Heap) (locs1 : List Loc) (ls1 : Array Slot), LI G1 → Bd G1 → Wd D k A a G1 H1 → va_S A s.heap H1 locs1 → lv_has ls1 4 [(0, .ref b), (1, .ref (a 0)), (2, .ref (a 66)), (3, .int i0)] → W p l e room_1 s m #[Value.ref b] below meth c H1 locs1 119 46443 (lw_Z below #[Value.ref b] s) (F0 m 1642 ls1 [])) : W p l e room_1 s m #[Value.ref b] below meth c H locs 119 46443 (lw_Z below #[Value.ref b] s) (F0 m 859 ls []) := by
  obtain ⟨hx, hb, hr, hml, hown, hts, hX, hbl, hlocks, hgv⟩ := id C0
  have hown : s.vm.findClass RL = some m.cls := hown
  have hgd : ∀ w ∈ gd, w ∈ lw_tbl := fun w h => (List.mem_filter.mp h).1
  have hg : ∀ w ∈ gd, w.before #[Value.ref b] s = true := fun w h => hts w (hgd w h)
  rcases hI with ⟨hv_0_0, hv_0_1, hv_6_4, hj0, hj1, hj2, hj3, hj4, hj5, hj6, hj7, hj8⟩ | ⟨hv_0_0, hv_0_1, hv_6_4, hj0, hj1, hj2, hj3, hj4, hj5, hj6, hj7, hj8⟩
  · skip
    refine lv_aload_n hx hb dL_law_859 rfl (lv_at hl 1 rfl) ?_
    refine lv_aload_n hx hb dL_law_860 rfl (lv_at hl 0 rfl) ?_
    refine lv_iload_n hx hb dL_law_861 rfl (lv_at hl 3 rfl) ?_
    refine lv_iconst (v := 1) hx hb dL_law_862 (by decide) ?_
    refine lv_iadd hx hb dL_law_863 ?_
    refine lv_topi (fun y_1 ey_1 => ?_)
    have ty_1 : y_1.toInt = i0.toInt + 1 := xI_add rfl rfl ey_1 (by omega) (by omega)
    refine va_sld hx hb hX hbl hbA hS (vin (by omega) (by omega)) dL_law_864 ?_
    refine lv_topi (fun y_2 ey_2 => ?_)
    have u_3 : y_2.toInt = (xs (i0 + 1).toNatClampNeg).toInt := by rw [ey_2, ey_1]
    refine lv_aload_n hx hb dL_law_865 rfl (lv_at hl 0 rfl) ?_
    refine lv_iload_n hx hb dL_law_866 rfl (lv_at hl 3 rfl) ?_
    refine lv_iconst (v := 2) hx hb dL_law_867 (by decide) ?_
    refine lv_iadd hx hb dL_law_868 ?_
    refine lv_topi (fun y_4 ey_4 => ?_)
    have ty_4 : y_4.toInt = i0.toInt + 2 := xI_add rfl rfl ey_4 (by omega) (by omega)
    refine va_sld hx hb hX hbl hbA hS (vin (by omega) (by omega)) dL_law_869 ?_
    refine lv_topi (fun y_5 ey_5 => ?_)
    have u_6 : y_5.toInt = (xs (i0 + 2).toNatClampNeg).toInt := by rw [ey_5, ey_4]
    refine lv_aload_n hx hb dL_law_870 rfl (lv_at hl 0 rfl) ?_
    refine lv_iload_n hx hb dL_law_871 rfl (lv_at hl 3 rfl) ?_
    refine lv_iconst (v := 3) hx hb dL_law_872 (by decide) ?_
    refine lv_iadd hx hb dL_law_873 ?_
    refine lv_topi (fun y_7 ey_7 => ?_)
    have ty_7 : y_7.toInt = i0.toInt + 3 := xI_add rfl rfl ey_7 (by omega) (by omega)
    refine va_sld hx hb hX hbl hbA hS (vin (by omega) (by omega)) dL_law_874 ?_
    refine lv_topi (fun y_8 ey_8 => ?_)
    have u_9 : y_8.toInt = (xs (i0 + 3).toNatClampNeg).toInt := by rw [ey_8, ey_7]
    refine lv_aload_n hx hb dL_law_875 rfl (lv_at hl 0 rfl) ?_
    refine lv_iload_n hx hb dL_law_876 rfl (lv_at hl 3 rfl) ?_
    refine lv_iconst (v := 4) hx hb dL_law_877 (by decide) ?_
    refine lv_iadd hx hb dL_law_878 ?_
    refine lv_topi (fun y_10 ey_10 => ?_)
    have ty_10 : y_10.toInt = i0.toInt + 4 := xI_add rfl rfl ey_10 (by omega) (by omega)
    refine va_sld hx hb hX hbl hbA hS (vin (by omega) (by omega)) dL_law_879 ?_
    refine lv_topi (fun y_11 ey_11 => ?_)
    have u_12 : y_11.toInt = (xs (i0 + 4).toNatClampNeg).toInt := by rw [ey_11, ey_10]
    refine S_calli (va_runV (As := [.int y_2, .int y_5, .int y_8, .int y_11]) (rest := []) ⟨hx, hb, hml, hown, hts⟩ (k_Wbegin l D k A a z G y_2 y_5 y_8 y_11 ) (cwV 4 hts (gd_V hgd m1072 m1073 m1074 m117 m1075) rfl rfl rfl (by decide +kernel) ⟨Nat.le_of_ble_eq_true rfl, Nat.le_of_ble_eq_true rfl⟩) (pre_V hW hB_G hK hZ hS kd_0 rfl) rfl rfl hl.1 rfl (lv_room (Nat.le_of_ble_eq_true rfl)) dL_law_880 ⟨Nat.le_of_ble_eq_true rfl, Nat.le_of_ble_eq_true rfl⟩) hS (fun r_13 G_14 H locs hpo hW hS => ?_)
    obtain ⟨hB_G_14, hq_15⟩ := hpo
    refine lv_pop hx hb dL_law_883 rfl ?_
    refine lv_aload_n hx hb dL_law_884 rfl (lv_at hl 2 rfl) ?_
    refine lv_aload_n hx hb dL_law_885 rfl (lv_at hl 0 rfl) ?_
    refine lv_iload_n hx hb dL_law_886 rfl (lv_at hl 3 rfl) ?_
    refine lv_iconst (v := 1) hx hb dL_law_887 (by decide) ?_
    refine lv_iadd hx hb dL_law_888 ?_
    refine lv_topi (fun y_17 ey_17 => ?_)
    have ty_17 : y_17.toInt = i0.toInt + 1 := xI_add rfl rfl ey_17 (by omega) (by omega)
    refine va_sld hx hb hX hbl hbA hS (vin (by omega) (by omega)) dL_law_889 ?_
    refine lv_topi (fun y_18 ey_18 => ?_)
    have u_19 : y_18.toInt = (xs (i0 + 1).toNatClampNeg).toInt := by rw [ey_18, ey_17]
    refine lv_aload_n hx hb dL_law_890 rfl (lv_at hl 0 rfl) ?_
    refine lv_iload_n hx hb dL_law_891 rfl (lv_at hl 3 rfl) ?_
    refine lv_iconst (v := 2) hx hb dL_law_892 (by decide) ?_
    refine lv_iadd hx hb dL_law_893 ?_
    refine lv_topi (fun y_20 ey_20 => ?_)
    have ty_20 : y_20.toInt = i0.toInt + 2 := xI_add rfl rfl ey_20 (by omega) (by omega)
    refine va_sld hx hb hX hbl hbA hS (vin (by omega) (by omega)) dL_law_894 ?_
    refine lv_topi (fun y_21 ey_21 => ?_)
    have u_22 : y_21.toInt = (xs (i0 + 2).toNatClampNeg).toInt := by rw [ey_21, ey_20]
    refine lv_aload_n hx hb dL_law_895 rfl (lv_at hl 0 rfl) ?_
    refine lv_iload_n hx hb dL_law_896 rfl (lv_at hl 3 rfl) ?_
    refine lv_iconst (v := 3) hx hb dL_law_897 (by decide) ?_
    refine lv_iadd hx hb dL_law_898 ?_
    refine lv_topi (fun y_23 ey_23 => ?_)
    have ty_23 : y_23.toInt = i0.toInt + 3 := xI_add rfl rfl ey_23 (by omega) (by omega)
    refine va_sld hx hb hX hbl hbA hS (vin (by omega) (by omega)) dL_law_899 ?_
    refine lv_topi (fun y_24 ey_24 => ?_)
    have u_25 : y_24.toInt = (xs (i0 + 3).toNatClampNeg).toInt := by rw [ey_24, ey_23]
    refine lv_aload_n hx hb dL_law_900 rfl (lv_at hl 0 rfl) ?_
    refine lv_iload_n hx hb dL_law_901 rfl (lv_at hl 3 rfl) ?_
    refine lv_iconst (v := 4) hx hb dL_law_902 (by decide) ?_
    refine lv_iadd hx hb dL_law_903 ?_
    refine lv_topi (fun y_26 ey_26 => ?_)
    have ty_26 : y_26.toInt = i0.toInt + 4 := xI_add rfl rfl ey_26 (by omega) (by omega)
    refine va_sld hx hb hX hbl hbA hS (vin (by omega) (by omega)) dL_law_904 ?_
    refine lv_topi (fun y_27 ey_27 => ?_)
    have u_28 : y_27.toInt = (xs (i0 + 4).toNatClampNeg).toInt := by rw [ey_27, ey_26]
    refine S_calli (va_runV (As := [.int y_18, .int y_21, .int y_24, .int y_27]) (rest := []) ⟨hx, hb, hml, hown, hts⟩ (n_begin l D k A a z G_14 y_18 y_21 y_24 y_27 ) (cwV 4 hts (gd_V hgd m1916 m1917 m1918 m131 m1919) rfl rfl rfl (by decide +kernel) ⟨Nat.le_of_ble_eq_true rfl, Nat.le_of_ble_eq_true rfl⟩) (pre_V hW hB_G_14 hK hZ hS kd_66 rfl) rfl rfl hl.1 rfl (lv_room (Nat.le_of_ble_eq_true rfl)) dL_law_905 ⟨Nat.le_of_ble_eq_true rfl, Nat.le_of_ble_eq_true rfl⟩) hS (fun r_29 G_30 H locs hpo hW hS => ?_)
    obtain ⟨hB_G_30, hq_31⟩ := hpo
    refine lv_pop hx hb dL_law_908 rfl ?_
    refine lv_goto (tgt := 1642) hx hb dL_law_909 (by decide) ?_
    have g_33 : gO G_30 = gO G := gO_fr (rs := []) (fs := []) ((Fr.rf.call hq_15 (by decide) (by decide)).call hq_31 (by decide) (by decide)) (by decide) (by decide)
    have g_34 : gP G_30 = gP G := gP_fr (rs := []) (fs := []) ((Fr.rf.call hq_15 (by decide) (by decide)).call hq_31 (by decide) (by decide)) (by decide) (by decide)
    have g_35 : gS G_30 = gS G := gS_fr (rs := []) (fs := []) ((Fr.rf.call hq_15 (by decide) (by decide)).call hq_31 (by decide) (by decide)) (by decide) (by decide)
    have g_36 : gW G_30 = gW G := gW_fr (rs := []) (fs := []) ((Fr.rf.call hq_15 (by decide) (by decide)).call hq_31 (by decide) (by decide)) (by decide) (by decide)
    have b_37 : 0 ≤ (G.1 0 11).toInt ∧ (G.1 0 11).toInt ≤ 1600 := hB_G.i 0 11 rfl rfl
    have g_38 : (G_30.1 0 11).toInt = (G.1 0 11).toInt := by rw [show G_30.1 0 11 = (G.1 0 11) from ((hq_31.i 0 11 (by decide) (by decide)).trans (hq_15.i 0 11 (by decide) (by decide)))]
    have b_39 : 0 ≤ (G.1 30 4).toInt ∧ (G.1 30 4).toInt ≤ 40 := hB_G.i 30 4 rfl rfl
    have g_40 : (G_30.1 30 4).toInt = (G.1 30 4).toInt := by rw [show G_30.1 30 4 = (G.1 30 4) from ((hq_31.i 30 4 (by decide) (by decide)).trans (hq_15.i 30 4 (by decide) (by decide)))]
    have b_41 : 0 ≤ (G.1 30 5).toInt ∧ (G.1 30 5).toInt ≤ 40 := hB_G.i 30 5 rfl rfl
    have g_42 : (G_30.1 30 5).toInt = (G.1 30 5).toInt := by rw [show G_30.1 30 5 = (G.1 30 5) from ((hq_31.i 30 5 (by decide) (by decide)).trans (hq_15.i 30 5 (by decide) (by decide)))]
    have b_43 : 0 ≤ (G.1 31 6).toInt ∧ (G.1 31 6).toInt ≤ 100000 := hB_G.i 31 6 rfl rfl
    have g_44 : (G_30.1 31 6).toInt = (G.1 31 6).toInt := by rw [show G_30.1 31 6 = (G.1 31 6) from ((hq_31.i 31 6 (by decide) (by decide)).trans (hq_15.i 31 6 (by decide) (by decide)))]
    have b_45 : 0 ≤ (G.1 66 1).toInt ∧ (G.1 66 1).toInt ≤ 1600 := hB_G.i 66 1 rfl rfl
    have g_46 : (G_30.1 66 1).toInt = (G.1 66 1).toInt := by rw [show G_30.1 66 1 = (G.1 66 1) from ((hq_31.i 66 1 (by decide) (by decide)).trans (hq_15.i 66 1 (by decide) (by decide)))]
    have b_47 : 0 ≤ (G.1 66 78).toInt ∧ (G.1 66 78).toInt ≤ 40 := hB_G.i 66 78 rfl rfl
    have g_48 : (G_30.1 66 78).toInt = (G.1 66 78).toInt := by rw [show G_30.1 66 78 = (G.1 66 78) from ((hq_31.i 66 78 (by decide) (by decide)).trans (hq_15.i 66 78 (by decide) (by decide)))]
    have b_49 : 0 ≤ (G.1 66 79).toInt ∧ (G.1 66 79).toInt ≤ 40 := hB_G.i 66 79 rfl rfl
    have g_50 : (G_30.1 66 79).toInt = (G.1 66 79).toInt := by rw [show G_30.1 66 79 = (G.1 66 79) from ((hq_31.i 66 79 (by decide) (by decide)).trans (hq_15.i 66 79 (by decide) (by decide)))]
    have b_51 : 0 ≤ (G.1 66 86).toInt ∧ (G.1 66 86).toInt ≤ 100000 := hB_G.i 66 86 rfl rfl
    have g_52 : (G_30.1 66 86).toInt = (G.1 66 86).toInt := by rw [show G_30.1 66 86 = (G.1 66 86) from ((hq_31.i 66 86 (by decide) (by decide)).trans (hq_15.i 66 86 (by decide) (by decide)))]
    have b_53 : 0 ≤ (G.1 96 0).toInt ∧ (G.1 96 0).toInt ≤ 9 := hB_G.i 96 0 rfl rfl
    have g_54 : (G_30.1 96 0).toInt = (G.1 96 0).toInt := by rw [show G_30.1 96 0 = (G.1 96 0) from ((hq_31.i 96 0 (by decide) (by decide)).trans (hq_15.i 96 0 (by decide) (by decide)))]
    have b_55 : 0 ≤ (G.1 96 1).toInt ∧ (G.1 96 1).toInt ≤ 9 := hB_G.i 96 1 rfl rfl
    have g_56 : (G_30.1 96 1).toInt = (G.1 96 1).toInt := by rw [show G_30.1 96 1 = (G.1 96 1) from ((hq_31.i 96 1 (by decide) (by decide)).trans (hq_15.i 96 1 (by decide) (by decide)))]
    have b_57 : 0 ≤ (G.1 96 2).toInt ∧ (G.1 96 2).toInt ≤ 9 := hB_G.i 96 2 rfl rfl
    have g_58 : (G_30.1 96 2).toInt = (G.1 96 2).toInt := by rw [show G_30.1 96 2 = (G.1 96 2) from ((hq_31.i 96 2 (by decide) (by decide)).trans (hq_15.i 96 2 (by decide) (by decide)))]
    exact K G_30 _ _ _ (Or.inl ⟨((((hq_31.r 0 0 (by decide) (by decide)).trans (hq_15.r 0 0 (by decide) (by decide)))).trans (hv_0_0)), ((((hq_31.r 0 1 (by decide) (by decide)).trans (hq_15.r 0 1 (by decide) (by decide)))).trans (hv_0_1)), ((((hq_31.r 6 4 (by decide) (by decide)).trans (hq_15.r 6 4 (by decide) (by decide)))).trans (hv_6_4)), by omega, by omega, by omega, by omega, by omega, by omega, by omega, by omega, by omega⟩) hB_G_30 hW hS (lv_sub hl [0, 1, 2, 3] rfl)
  · skip
    refine lv_aload_n hx hb dL_law_859 rfl (lv_at hl 1 rfl) ?_
    refine lv_aload_n hx hb dL_law_860 rfl (lv_at hl 0 rfl) ?_
    refine lv_iload_n hx hb dL_law_861 rfl (lv_at hl 3 rfl) ?_
    refine lv_iconst (v := 1) hx hb dL_law_862 (by decide) ?_
    refine lv_iadd hx hb dL_law_863 ?_
    refine lv_topi (fun y_1 ey_1 => ?_)
    have ty_1 : y_1.toInt = i0.toInt + 1 := xI_add rfl rfl ey_1 (by omega) (by omega)
    refine va_sld hx hb hX hbl hbA hS (vin (by omega) (by omega)) dL_law_864 ?_
    refine lv_topi (fun y_2 ey_2 => ?_)
    have u_3 : y_2.toInt = (xs (i0 + 1).toNatClampNeg).toInt := by rw [ey_2, ey_1]
    refine lv_aload_n hx hb dL_law_865 rfl (lv_at hl 0 rfl) ?_
    refine lv_iload_n hx hb dL_law_866 rfl (lv_at hl 3 rfl) ?_
    refine lv_iconst (v := 2) hx hb dL_law_867 (by decide) ?_
    refine lv_iadd hx hb dL_law_868 ?_
    refine lv_topi (fun y_4 ey_4 => ?_)
    have ty_4 : y_4.toInt = i0.toInt + 2 := xI_add rfl rfl ey_4 (by omega) (by omega)
    refine va_sld hx hb hX hbl hbA hS (vin (by omega) (by omega)) dL_law_869 ?_
    refine lv_topi (fun y_5 ey_5 => ?_)
    have u_6 : y_5.toInt = (xs (i0 + 2).toNatClampNeg).toInt := by rw [ey_5, ey_4]
    refine lv_aload_n hx hb dL_law_870 rfl (lv_at hl 0 rfl) ?_
    refine lv_iload_n hx hb dL_law_871 rfl (lv_at hl 3 rfl) ?_
    refine lv_iconst (v := 3) hx hb dL_law_872 (by decide) ?_
    refine lv_iadd hx hb dL_law_873 ?_
    refine lv_topi (fun y_7 ey_7 => ?_)
    have ty_7 : y_7.toInt = i0.toInt + 3 := xI_add rfl rfl ey_7 (by omega) (by omega)
    refine va_sld hx hb hX hbl hbA hS (vin (by omega) (by omega)) dL_law_874 ?_
    refine lv_topi (fun y_8 ey_8 => ?_)
    have u_9 : y_8.toInt = (xs (i0 + 3).toNatClampNeg).toInt := by rw [ey_8, ey_7]
    refine lv_aload_n hx hb dL_law_875 rfl (lv_at hl 0 rfl) ?_
    refine lv_iload_n hx hb dL_law_876 rfl (lv_at hl 3 rfl) ?_
    refine lv_iconst (v := 4) hx hb dL_law_877 (by decide) ?_
    refine lv_iadd hx hb dL_law_878 ?_
    refine lv_topi (fun y_10 ey_10 => ?_)
    have ty_10 : y_10.toInt = i0.toInt + 4 := xI_add rfl rfl ey_10 (by omega) (by omega)
    refine va_sld hx hb hX hbl hbA hS (vin (by omega) (by omega)) dL_law_879 ?_
    refine lv_topi (fun y_11 ey_11 => ?_)
    have u_12 : y_11.toInt = (xs (i0 + 4).toNatClampNeg).toInt := by rw [ey_11, ey_10]
    refine S_calli (va_runV (As := [.int y_2, .int y_5, .int y_8, .int y_11]) (rest := []) ⟨hx, hb, hml, hown, hts⟩ (k_Wbegin l D k A a z G y_2 y_5 y_8 y_11 ) (cwV 4 hts (gd_V hgd m1072 m1073 m1074 m117 m1075) rfl rfl rfl (by decide +kernel) ⟨Nat.le_of_ble_eq_true rfl, Nat.le_of_ble_eq_true rfl⟩) (pre_V hW hB_G hK hZ hS kd_0 rfl) rfl rfl hl.1 rfl (lv_room (Nat.le_of_ble_eq_true rfl)) dL_law_880 ⟨Nat.le_of_ble_eq_true rfl, Nat.le_of_ble_eq_true rfl⟩) hS (fun r_13 G_14 H locs hpo hW hS => ?_)
    obtain ⟨hB_G_14, hq_15⟩ := hpo
    refine lv_pop hx hb dL_law_883 rfl ?_
    refine lv_aload_n hx hb dL_law_884 rfl (lv_at hl 2 rfl) ?_
    refine lv_aload_n hx hb dL_law_885 rfl (lv_at hl 0 rfl) ?_
    refine lv_iload_n hx hb dL_law_886 rfl (lv_at hl 3 rfl) ?_
    refine lv_iconst (v := 1) hx hb dL_law_887 (by decide) ?_
    refine lv_iadd hx hb dL_law_888 ?_
    refine lv_topi (fun y_17 ey_17 => ?_)
    have ty_17 : y_17.toInt = i0.toInt + 1 := xI_add rfl rfl ey_17 (by omega) (by omega)
    refine va_sld hx hb hX hbl hbA hS (vin (by omega) (by omega)) dL_law_889 ?_
    refine lv_topi (fun y_18 ey_18 => ?_)
    have u_19 : y_18.toInt = (xs (i0 + 1).toNatClampNeg).toInt := by rw [ey_18, ey_17]
    refine lv_aload_n hx hb dL_law_890 rfl (lv_at hl 0 rfl) ?_
    refine lv_iload_n hx hb dL_law_891 rfl (lv_at hl 3 rfl) ?_
    refine lv_iconst (v := 2) hx hb dL_law_892 (by decide) ?_
    refine lv_iadd hx hb dL_law_893 ?_
    refine lv_topi (fun y_20 ey_20 => ?_)
    have ty_20 : y_20.toInt = i0.toInt + 2 := xI_add rfl rfl ey_20 (by omega) (by omega)
    refine va_sld hx hb hX hbl hbA hS (vin (by omega) (by omega)) dL_law_894 ?_
    refine lv_topi (fun y_21 ey_21 => ?_)
    have u_22 : y_21.toInt = (xs (i0 + 2).toNatClampNeg).toInt := by rw [ey_21, ey_20]
    refine lv_aload_n hx hb dL_law_895 rfl (lv_at hl 0 rfl) ?_
    refine lv_iload_n hx hb dL_law_896 rfl (lv_at hl 3 rfl) ?_
    refine lv_iconst (v := 3) hx hb dL_law_897 (by decide) ?_
    refine lv_iadd hx hb dL_law_898 ?_
    refine lv_topi (fun y_23 ey_23 => ?_)
    have ty_23 : y_23.toInt = i0.toInt + 3 := xI_add rfl rfl ey_23 (by omega) (by omega)
    refine va_sld hx hb hX hbl hbA hS (vin (by omega) (by omega)) dL_law_899 ?_
    refine lv_topi (fun y_24 ey_24 => ?_)
    have u_25 : y_24.toInt = (xs (i0 + 3).toNatClampNeg).toInt := by rw [ey_24, ey_23]
    refine lv_aload_n hx hb dL_law_900 rfl (lv_at hl 0 rfl) ?_
    refine lv_iload_n hx hb dL_law_901 rfl (lv_at hl 3 rfl) ?_
    refine lv_iconst (v := 4) hx hb dL_law_902 (by decide) ?_
    refine lv_iadd hx hb dL_law_903 ?_
    refine lv_topi (fun y_26 ey_26 => ?_)
    have ty_26 : y_26.toInt = i0.toInt + 4 := xI_add rfl rfl ey_26 (by omega) (by omega)
    refine va_sld hx hb hX hbl hbA hS (vin (by omega) (by omega)) dL_law_904 ?_
    refine lv_topi (fun y_27 ey_27 => ?_)
    have u_28 : y_27.toInt = (xs (i0 + 4).toNatClampNeg).toInt := by rw [ey_27, ey_26]
    refine S_calli (va_runV (As := [.int y_18, .int y_21, .int y_24, .int y_27]) (rest := []) ⟨hx, hb, hml, hown, hts⟩ (n_begin l D k A a z G_14 y_18 y_21 y_24 y_27 ) (cwV 4 hts (gd_V hgd m1916 m1917 m1918 m131 m1919) rfl rfl rfl (by decide +kernel) ⟨Nat.le_of_ble_eq_true rfl, Nat.le_of_ble_eq_true rfl⟩) (pre_V hW hB_G_14 hK hZ hS kd_66 rfl) rfl rfl hl.1 rfl (lv_room (Nat.le_of_ble_eq_true rfl)) dL_law_905 ⟨Nat.le_of_ble_eq_true rfl, Nat.le_of_ble_eq_true rfl⟩) hS (fun r_29 G_30 H locs hpo hW hS => ?_)
    obtain ⟨hB_G_30, hq_31⟩ := hpo
    refine lv_pop hx hb dL_law_908 rfl ?_
    refine lv_goto (tgt := 1642) hx hb dL_law_909 (by decide) ?_
    have g_33 : gO G_30 = gO G := gO_fr (rs := []) (fs := []) ((Fr.rf.call hq_15 (by decide) (by decide)).call hq_31 (by decide) (by decide)) (by decide) (by decide)
    have g_34 : gP G_30 = gP G := gP_fr (rs := []) (fs := []) ((Fr.rf.call hq_15 (by decide) (by decide)).call hq_31 (by decide) (by decide)) (by decide) (by decide)
    have g_35 : gS G_30 = gS G := gS_fr (rs := []) (fs := []) ((Fr.rf.call hq_15 (by decide) (by decide)).call hq_31 (by decide) (by decide)) (by decide) (by decide)
    have g_36 : gW G_30 = gW G := gW_fr (rs := []) (fs := []) ((Fr.rf.call hq_15 (by decide) (by decide)).call hq_31 (by decide) (by decide)) (by decide) (by decide)
    have b_37 : 0 ≤ (G.1 0 11).toInt ∧ (G.1 0 11).toInt ≤ 1600 := hB_G.i 0 11 rfl rfl
    have g_38 : (G_30.1 0 11).toInt = (G.1 0 11).toInt := by rw [show G_30.1 0 11 = (G.1 0 11) from ((hq_31.i 0 11 (by decide) (by decide)).trans (hq_15.i 0 11 (by decide) (by decide)))]
    have b_39 : 0 ≤ (G.1 30 4).toInt ∧ (G.1 30 4).toInt ≤ 40 := hB_G.i 30 4 rfl rfl
    have g_40 : (G_30.1 30 4).toInt = (G.1 30 4).toInt := by rw [show G_30.1 30 4 = (G.1 30 4) from ((hq_31.i 30 4 (by decide) (by decide)).trans (hq_15.i 30 4 (by decide) (by decide)))]
    have b_41 : 0 ≤ (G.1 30 5).toInt ∧ (G.1 30 5).toInt ≤ 40 := hB_G.i 30 5 rfl rfl
    have g_42 : (G_30.1 30 5).toInt = (G.1 30 5).toInt := by rw [show G_30.1 30 5 = (G.1 30 5) from ((hq_31.i 30 5 (by decide) (by decide)).trans (hq_15.i 30 5 (by decide) (by decide)))]
    have b_43 : 0 ≤ (G.1 31 6).toInt ∧ (G.1 31 6).toInt ≤ 100000 := hB_G.i 31 6 rfl rfl
    have g_44 : (G_30.1 31 6).toInt = (G.1 31 6).toInt := by rw [show G_30.1 31 6 = (G.1 31 6) from ((hq_31.i 31 6 (by decide) (by decide)).trans (hq_15.i 31 6 (by decide) (by decide)))]
    have b_45 : 0 ≤ (G.1 66 1).toInt ∧ (G.1 66 1).toInt ≤ 1600 := hB_G.i 66 1 rfl rfl
    have g_46 : (G_30.1 66 1).toInt = (G.1 66 1).toInt := by rw [show G_30.1 66 1 = (G.1 66 1) from ((hq_31.i 66 1 (by decide) (by decide)).trans (hq_15.i 66 1 (by decide) (by decide)))]
    have b_47 : 0 ≤ (G.1 66 78).toInt ∧ (G.1 66 78).toInt ≤ 40 := hB_G.i 66 78 rfl rfl
    have g_48 : (G_30.1 66 78).toInt = (G.1 66 78).toInt := by rw [show G_30.1 66 78 = (G.1 66 78) from ((hq_31.i 66 78 (by decide) (by decide)).trans (hq_15.i 66 78 (by decide) (by decide)))]
    have b_49 : 0 ≤ (G.1 66 79).toInt ∧ (G.1 66 79).toInt ≤ 40 := hB_G.i 66 79 rfl rfl
    have g_50 : (G_30.1 66 79).toInt = (G.1 66 79).toInt := by rw [show G_30.1 66 79 = (G.1 66 79) from ((hq_31.i 66 79 (by decide) (by decide)).trans (hq_15.i 66 79 (by decide) (by decide)))]
    have b_51 : 0 ≤ (G.1 66 86).toInt ∧ (G.1 66 86).toInt ≤ 100000 := hB_G.i 66 86 rfl rfl
    have g_52 : (G_30.1 66 86).toInt = (G.1 66 86).toInt := by rw [show G_30.1 66 86 = (G.1 66 86) from ((hq_31.i 66 86 (by decide) (by decide)).trans (hq_15.i 66 86 (by decide) (by decide)))]
    have b_53 : 0 ≤ (G.1 96 0).toInt ∧ (G.1 96 0).toInt ≤ 9 := hB_G.i 96 0 rfl rfl
    have g_54 : (G_30.1 96 0).toInt = (G.1 96 0).toInt := by rw [show G_30.1 96 0 = (G.1 96 0) from ((hq_31.i 96 0 (by decide) (by decide)).trans (hq_15.i 96 0 (by decide) (by decide)))]
    have b_55 : 0 ≤ (G.1 96 1).toInt ∧ (G.1 96 1).toInt ≤ 9 := hB_G.i 96 1 rfl rfl
    have g_56 : (G_30.1 96 1).toInt = (G.1 96 1).toInt := by rw [show G_30.1 96 1 = (G.1 96 1) from ((hq_31.i 96 1 (by decide) (by decide)).trans (hq_15.i 96 1 (by decide) (by decide)))]
    have b_57 : 0 ≤ (G.1 96 2).toInt ∧ (G.1 96 2).toInt ≤ 9 := hB_G.i 96 2 rfl rfl
    have g_58 : (G_30.1 96 2).toInt = (G.1 96 2).toInt := by rw [show G_30.1 96 2 = (G.1 96 2) from ((hq_31.i 96 2 (by decide) (by decide)).trans (hq_15.i 96 2 (by decide) (by decide)))]
    exact K G_30 _ _ _ (Or.inr ⟨((((hq_31.r 0 0 (by decide) (by decide)).trans (hq_15.r 0 0 (by decide) (by decide)))).trans (hv_0_0)), ((((hq_31.r 0 1 (by decide) (by decide)).trans (hq_15.r 0 1 (by decide) (by decide)))).trans (hv_0_1)), ((((hq_31.r 6 4 (by decide) (by decide)).trans (hq_15.r 6 4 (by decide) (by decide)))).trans (hv_6_4)), by omega, by omega, by omega, by omega, by omega, by omega, by omega, by omega, by omega⟩) hB_G_30 hW hS (lv_sub hl [0, 1, 2, 3] rfl)

set_option maxHeartbeats 4000000 in
set_option maxRecDepth 100000 in
theorem law_16 {p : Program} {l : Launch} {e : Env} {s : State} {m : MethodId} {below : List Frame} {meth : Method} {c : Code} {D : va_G} {k : KT} {A : Nat → Prop} {a : Nat → Nat} {z : SK} {b L : Nat} {xs : Nat → Int32} (hL : L ≤ 3072) (C0 : lw_At p s m meth c b L xs) (hK : cK D k s) (hZ : Sx A z s) (hbA : ¬ A b) (hA : ∀ q : Nat, s.heap.size ≤ q → A q) {G : GS} {i0 : Int32} (hi0 : 0 ≤ i0.toInt) (hi6 : i0.toInt + 6 ≤ L) (hI : LI G) (hB_G : Bd G) {H : Heap} {locs : List Loc} {ls : Array Slot} (hW : Wd D k A a G H) (hS : va_S A s.heap H locs) (hl : lv_has ls 4 [(0, .ref b), (1, .ref (a 0)), (2, .ref (a 66)), (3, .int i0)]) (K : ∀ (G1 : GS) (H1 : Heap) (locs1 : List Loc) (ls1 : Array Slot), LI G1 → Bd G1 → Wd D k A a G1 H1 → va_S A s.heap H1 locs1 → lv_has ls1 4 [(0, .ref b), (1, .ref (a 0)), (2, .ref (a 66)), (3, .int i0)] → W p l e room_1 s m #[Value.ref b] below meth c H1 locs1 119 46443 (lw_Z below #[Value.ref b] s) (F0 m 1642 ls1 [])) : W p l e room_1 s m #[Value.ref b] below meth c H locs 119 46443 (lw_Z below #[Value.ref b] s) (F0 m 912 ls []) := by
  obtain ⟨hx, hb, hr, hml, hown, hts, hX, hbl, hlocks, hgv⟩ := id C0
  have hown : s.vm.findClass RL = some m.cls := hown
  have hgd : ∀ w ∈ gd, w ∈ lw_tbl := fun w h => (List.mem_filter.mp h).1
  have hg : ∀ w ∈ gd, w.before #[Value.ref b] s = true := fun w h => hts w (hgd w h)
  rcases hI with ⟨hv_0_0, hv_0_1, hv_6_4, hj0, hj1, hj2, hj3, hj4, hj5, hj6, hj7, hj8⟩ | ⟨hv_0_0, hv_0_1, hv_6_4, hj0, hj1, hj2, hj3, hj4, hj5, hj6, hj7, hj8⟩
  · skip
    obtain ⟨p0, hp0⟩ : ∃ y, y = xs (i0 + 1).toNatClampNeg := ⟨_, rfl⟩
    obtain ⟨p1, hp1⟩ : ∃ y, y = xs (i0 + 2).toNatClampNeg := ⟨_, rfl⟩
    obtain ⟨p2, hp2⟩ : ∃ y, y = xs (i0 + 3).toNatClampNeg := ⟨_, rfl⟩
    obtain ⟨p3, hp3⟩ : ∃ y, y = xs (i0 + 4).toNatClampNeg := ⟨_, rfl⟩
    obtain ⟨p4, hp4⟩ : ∃ y, y = xs (i0 + 5).toNatClampNeg := ⟨_, rfl⟩
    by_cases hv : ¬ s_endless p0 p1 p4 = 0 ∧ ¬ s_endless p2 p3 p4 = 0
    · skip
      obtain ⟨n0, n1, n4, hn, e0, e1, e4⟩ := endless_nats hv.1
      obtain ⟨n2, n3, n5, hn2, e2, e3, e5⟩ := endless_nats hv.2
      subst e0 e1 e2 e3 e4
      have hn3 : n4 = n5 := (nI_eq (by omega) (by omega)).mp e5
      refine lv_aload_n hx hb dL_law_912 rfl (lv_at hl 1 rfl) ?_
      refine lv_aload_n hx hb dL_law_913 rfl (lv_at hl 0 rfl) ?_
      refine lv_iload_n hx hb dL_law_914 rfl (lv_at hl 3 rfl) ?_
      refine lv_iconst (v := 1) hx hb dL_law_915 (by decide) ?_
      refine lv_iadd hx hb dL_law_916 ?_
      refine lv_topi (fun y_1 ey_1 => ?_)
      have ty_1 : y_1.toInt = i0.toInt + 1 := xI_add rfl rfl ey_1 (by omega) (by omega)
      refine va_sld hx hb hX hbl hbA hS (vin (by omega) (by omega)) dL_law_917 ?_
      refine lv_topi (fun y_2 ey_2 => ?_)
      rw [show y_2 = (nI n0) from by rw [ey_2, ey_1]; exact hp0.symm]
      refine lv_aload_n hx hb dL_law_918 rfl (lv_at hl 0 rfl) ?_
      refine lv_iload_n hx hb dL_law_919 rfl (lv_at hl 3 rfl) ?_
      refine lv_iconst (v := 2) hx hb dL_law_920 (by decide) ?_
      refine lv_iadd hx hb dL_law_921 ?_
      refine lv_topi (fun y_3 ey_3 => ?_)
      have ty_3 : y_3.toInt = i0.toInt + 2 := xI_add rfl rfl ey_3 (by omega) (by omega)
      refine va_sld hx hb hX hbl hbA hS (vin (by omega) (by omega)) dL_law_922 ?_
      refine lv_topi (fun y_4 ey_4 => ?_)
      rw [show y_4 = (nI n1) from by rw [ey_4, ey_3]; exact hp1.symm]
      refine lv_aload_n hx hb dL_law_923 rfl (lv_at hl 0 rfl) ?_
      refine lv_iload_n hx hb dL_law_924 rfl (lv_at hl 3 rfl) ?_
      refine lv_iconst (v := 3) hx hb dL_law_925 (by decide) ?_
      refine lv_iadd hx hb dL_law_926 ?_
      refine lv_topi (fun y_5 ey_5 => ?_)
      have ty_5 : y_5.toInt = i0.toInt + 3 := xI_add rfl rfl ey_5 (by omega) (by omega)
      refine va_sld hx hb hX hbl hbA hS (vin (by omega) (by omega)) dL_law_927 ?_
      refine lv_topi (fun y_6 ey_6 => ?_)
      rw [show y_6 = (nI n2) from by rw [ey_6, ey_5]; exact hp2.symm]
      refine lv_aload_n hx hb dL_law_928 rfl (lv_at hl 0 rfl) ?_
      refine lv_iload_n hx hb dL_law_929 rfl (lv_at hl 3 rfl) ?_
      refine lv_iconst (v := 4) hx hb dL_law_930 (by decide) ?_
      refine lv_iadd hx hb dL_law_931 ?_
      refine lv_topi (fun y_7 ey_7 => ?_)
      have ty_7 : y_7.toInt = i0.toInt + 4 := xI_add rfl rfl ey_7 (by omega) (by omega)
      refine va_sld hx hb hX hbl hbA hS (vin (by omega) (by omega)) dL_law_932 ?_
      refine lv_topi (fun y_8 ey_8 => ?_)
      rw [show y_8 = (nI n3) from by rw [ey_8, ey_7]; exact hp3.symm]
      refine lv_aload_n hx hb dL_law_933 rfl (lv_at hl 0 rfl) ?_
      refine lv_iload_n hx hb dL_law_934 rfl (lv_at hl 3 rfl) ?_
      refine lv_iconst (v := 5) hx hb dL_law_935 (by decide) ?_
      refine lv_iadd hx hb dL_law_936 ?_
      refine lv_topi (fun y_9 ey_9 => ?_)
      have ty_9 : y_9.toInt = i0.toInt + 5 := xI_add rfl rfl ey_9 (by omega) (by omega)
      refine va_sld hx hb hX hbl hbA hS (vin (by omega) (by omega)) dL_law_937 ?_
      refine lv_topi (fun y_10 ey_10 => ?_)
      rw [show y_10 = (nI n4) from by rw [ey_10, ey_9]; exact hp4.symm]
      refine B_calll kd_0 hW (va_runV (As := [.int (nI n0), .int (nI n1), .int (nI n2), .int (nI n3), .int (nI n4)]) (rest := []) ⟨hx, hb, hml, hown, hts⟩ (c_X11_suits_ok l D k H.size (a 0) n0 n1 n2 n3 n4 _ (by omega) (by omega) (by omega) (by omega) (by omega) (by omega) (by omega) (by omega)) (cwV 5 hts (gd_V hgd m1083 m1084 m1085 m117 m1086) rfl rfl rfl (by decide +kernel) ⟨Nat.le_of_ble_eq_true rfl, Nat.le_of_ble_eq_true rfl⟩) (cQ_V (Wd_sub hW kd_0).1 hK (Wd_sub hW kd_0).2 (ci := 11) (q0 := 0) rfl rfl) rfl rfl hl.1 rfl (lv_room (Nat.le_of_ble_eq_true rfl)) dL_law_938 ⟨Nat.le_of_ble_eq_true rfl, Nat.le_of_ble_eq_true rfl⟩) hS hA (fun r_11 H locs hr_12 hW hS => ?_)
      have hr_12 : r_11 = _ := hr_12
      refine lv_aload_n hx hb dL_law_941 rfl (lv_at hl 2 rfl) ?_
      refine lv_aload_n hx hb dL_law_942 rfl (lv_at hl 0 rfl) ?_
      refine lv_iload_n hx hb dL_law_943 rfl (lv_at hl 3 rfl) ?_
      refine lv_iconst (v := 1) hx hb dL_law_944 (by decide) ?_
      refine lv_iadd hx hb dL_law_945 ?_
      refine lv_topi (fun y_13 ey_13 => ?_)
      have ty_13 : y_13.toInt = i0.toInt + 1 := xI_add rfl rfl ey_13 (by omega) (by omega)
      refine va_sld hx hb hX hbl hbA hS (vin (by omega) (by omega)) dL_law_946 ?_
      refine lv_topi (fun y_14 ey_14 => ?_)
      rw [show y_14 = (nI n0) from by rw [ey_14, ey_13]; exact hp0.symm]
      refine lv_aload_n hx hb dL_law_947 rfl (lv_at hl 0 rfl) ?_
      refine lv_iload_n hx hb dL_law_948 rfl (lv_at hl 3 rfl) ?_
      refine lv_iconst (v := 2) hx hb dL_law_949 (by decide) ?_
      refine lv_iadd hx hb dL_law_950 ?_
      refine lv_topi (fun y_15 ey_15 => ?_)
      have ty_15 : y_15.toInt = i0.toInt + 2 := xI_add rfl rfl ey_15 (by omega) (by omega)
      refine va_sld hx hb hX hbl hbA hS (vin (by omega) (by omega)) dL_law_951 ?_
      refine lv_topi (fun y_16 ey_16 => ?_)
      rw [show y_16 = (nI n1) from by rw [ey_16, ey_15]; exact hp1.symm]
      refine lv_aload_n hx hb dL_law_952 rfl (lv_at hl 0 rfl) ?_
      refine lv_iload_n hx hb dL_law_953 rfl (lv_at hl 3 rfl) ?_
      refine lv_iconst (v := 3) hx hb dL_law_954 (by decide) ?_
      refine lv_iadd hx hb dL_law_955 ?_
      refine lv_topi (fun y_17 ey_17 => ?_)
      have ty_17 : y_17.toInt = i0.toInt + 3 := xI_add rfl rfl ey_17 (by omega) (by omega)
      refine va_sld hx hb hX hbl hbA hS (vin (by omega) (by omega)) dL_law_956 ?_
      refine lv_topi (fun y_18 ey_18 => ?_)
      rw [show y_18 = (nI n2) from by rw [ey_18, ey_17]; exact hp2.symm]
      refine lv_aload_n hx hb dL_law_957 rfl (lv_at hl 0 rfl) ?_
      refine lv_iload_n hx hb dL_law_958 rfl (lv_at hl 3 rfl) ?_
      refine lv_iconst (v := 4) hx hb dL_law_959 (by decide) ?_
      refine lv_iadd hx hb dL_law_960 ?_
      refine lv_topi (fun y_19 ey_19 => ?_)
      have ty_19 : y_19.toInt = i0.toInt + 4 := xI_add rfl rfl ey_19 (by omega) (by omega)
      refine va_sld hx hb hX hbl hbA hS (vin (by omega) (by omega)) dL_law_961 ?_
      refine lv_topi (fun y_20 ey_20 => ?_)
      rw [show y_20 = (nI n3) from by rw [ey_20, ey_19]; exact hp3.symm]
      refine lv_aload_n hx hb dL_law_962 rfl (lv_at hl 0 rfl) ?_
      refine lv_iload_n hx hb dL_law_963 rfl (lv_at hl 3 rfl) ?_
      refine lv_iconst (v := 5) hx hb dL_law_964 (by decide) ?_
      refine lv_iadd hx hb dL_law_965 ?_
      refine lv_topi (fun y_21 ey_21 => ?_)
      have ty_21 : y_21.toInt = i0.toInt + 5 := xI_add rfl rfl ey_21 (by omega) (by omega)
      refine va_sld hx hb hX hbl hbA hS (vin (by omega) (by omega)) dL_law_966 ?_
      refine lv_topi (fun y_22 ey_22 => ?_)
      rw [show y_22 = (nI n4) from by rw [ey_22, ey_21]; exact hp4.symm]
      refine B_calll kd_66 hW (va_runV (As := [.int (nI n0), .int (nI n1), .int (nI n2), .int (nI n3), .int (nI n4)]) (rest := [.long r_11]) ⟨hx, hb, hml, hown, hts⟩ (c_X12_suits_ok l D k H.size (a 66) n0 n1 n2 n3 n4 _ (by omega) (by omega) (by omega) (by omega) (by omega) (by omega) (by omega) (by omega)) (cwV 5 hts (gd_V hgd m1923 m1924 m1925 m131 m1926) rfl rfl rfl (by decide +kernel) ⟨Nat.le_of_ble_eq_true rfl, Nat.le_of_ble_eq_true rfl⟩) (cQ_V (Wd_sub hW kd_66).1 hK (Wd_sub hW kd_66).2 (ci := 12) (q0 := 0) rfl rfl) rfl rfl hl.1 rfl (lv_room (Nat.le_of_ble_eq_true rfl)) dL_law_967 ⟨Nat.le_of_ble_eq_true rfl, Nat.le_of_ble_eq_true rfl⟩) hS hA (fun r_23 H locs hr_24 hW hS => ?_)
      have hr_24 : r_23 = _ := hr_24
      have heq_ : r_11 = r_23 := hr_12.trans hr_24.symm
      refine W.lcmp hx hb dL_law_970 ?_
      refine lv_topi (fun y_25 ey_25 => ?_)
      have ty_25 := lcmp_rng ey_25
      have u_26 : y_25.toInt = 0 := lc_same ey_25 heq_
      refine lv_if_eq (tgt := 1642) hx hb dL_law_971 (by decide) (fun c_27 => ?_) (fun c_27 => ?_)
      · have c_27 : y_25.toInt = 0 := xI_eq rfl rfl c_27
        have b_28 : 0 ≤ (G.1 0 11).toInt ∧ (G.1 0 11).toInt ≤ 1600 := hB_G.i 0 11 rfl rfl
        have b_29 : 0 ≤ (G.1 30 4).toInt ∧ (G.1 30 4).toInt ≤ 40 := hB_G.i 30 4 rfl rfl
        have b_30 : 0 ≤ (G.1 30 5).toInt ∧ (G.1 30 5).toInt ≤ 40 := hB_G.i 30 5 rfl rfl
        have b_31 : 0 ≤ (G.1 31 6).toInt ∧ (G.1 31 6).toInt ≤ 100000 := hB_G.i 31 6 rfl rfl
        have b_32 : 0 ≤ (G.1 66 1).toInt ∧ (G.1 66 1).toInt ≤ 1600 := hB_G.i 66 1 rfl rfl
        have b_33 : 0 ≤ (G.1 66 78).toInt ∧ (G.1 66 78).toInt ≤ 40 := hB_G.i 66 78 rfl rfl
        have b_34 : 0 ≤ (G.1 66 79).toInt ∧ (G.1 66 79).toInt ≤ 40 := hB_G.i 66 79 rfl rfl
        have b_35 : 0 ≤ (G.1 66 86).toInt ∧ (G.1 66 86).toInt ≤ 100000 := hB_G.i 66 86 rfl rfl
        have b_36 : 0 ≤ (G.1 96 0).toInt ∧ (G.1 96 0).toInt ≤ 9 := hB_G.i 96 0 rfl rfl
        have b_37 : 0 ≤ (G.1 96 1).toInt ∧ (G.1 96 1).toInt ≤ 9 := hB_G.i 96 1 rfl rfl
        have b_38 : 0 ≤ (G.1 96 2).toInt ∧ (G.1 96 2).toInt ≤ 9 := hB_G.i 96 2 rfl rfl
        exact K G _ _ _ (Or.inl ⟨hv_0_0, hv_0_1, hv_6_4, by omega, by omega, by omega, by omega, by omega, by omega, by omega, by omega, by omega⟩) hB_G hW hS (lv_sub hl [0, 1, 2, 3] rfl)
      · have c_27 : y_25.toInt ≠ 0 := xI_ne rfl rfl c_27
        exfalso; omega
    have hbad := hv
    refine lv_aload_n hx hb dL_law_912 rfl (lv_at hl 1 rfl) ?_
    refine lv_aload_n hx hb dL_law_913 rfl (lv_at hl 0 rfl) ?_
    refine lv_iload_n hx hb dL_law_914 rfl (lv_at hl 3 rfl) ?_
    refine lv_iconst (v := 1) hx hb dL_law_915 (by decide) ?_
    refine lv_iadd hx hb dL_law_916 ?_
    refine lv_topi (fun y_39 ey_39 => ?_)
    have ty_39 : y_39.toInt = i0.toInt + 1 := xI_add rfl rfl ey_39 (by omega) (by omega)
    refine va_sld hx hb hX hbl hbA hS (vin (by omega) (by omega)) dL_law_917 ?_
    refine lv_topi (fun y_40 ey_40 => ?_)
    rw [show y_40 = p0 from by rw [ey_40, ey_39]; exact hp0.symm]
    refine lv_aload_n hx hb dL_law_918 rfl (lv_at hl 0 rfl) ?_
    refine lv_iload_n hx hb dL_law_919 rfl (lv_at hl 3 rfl) ?_
    refine lv_iconst (v := 2) hx hb dL_law_920 (by decide) ?_
    refine lv_iadd hx hb dL_law_921 ?_
    refine lv_topi (fun y_41 ey_41 => ?_)
    have ty_41 : y_41.toInt = i0.toInt + 2 := xI_add rfl rfl ey_41 (by omega) (by omega)
    refine va_sld hx hb hX hbl hbA hS (vin (by omega) (by omega)) dL_law_922 ?_
    refine lv_topi (fun y_42 ey_42 => ?_)
    rw [show y_42 = p1 from by rw [ey_42, ey_41]; exact hp1.symm]
    refine lv_aload_n hx hb dL_law_923 rfl (lv_at hl 0 rfl) ?_
    refine lv_iload_n hx hb dL_law_924 rfl (lv_at hl 3 rfl) ?_
    refine lv_iconst (v := 3) hx hb dL_law_925 (by decide) ?_
    refine lv_iadd hx hb dL_law_926 ?_
    refine lv_topi (fun y_43 ey_43 => ?_)
    have ty_43 : y_43.toInt = i0.toInt + 3 := xI_add rfl rfl ey_43 (by omega) (by omega)
    refine va_sld hx hb hX hbl hbA hS (vin (by omega) (by omega)) dL_law_927 ?_
    refine lv_topi (fun y_44 ey_44 => ?_)
    rw [show y_44 = p2 from by rw [ey_44, ey_43]; exact hp2.symm]
    refine lv_aload_n hx hb dL_law_928 rfl (lv_at hl 0 rfl) ?_
    refine lv_iload_n hx hb dL_law_929 rfl (lv_at hl 3 rfl) ?_
    refine lv_iconst (v := 4) hx hb dL_law_930 (by decide) ?_
    refine lv_iadd hx hb dL_law_931 ?_
    refine lv_topi (fun y_45 ey_45 => ?_)
    have ty_45 : y_45.toInt = i0.toInt + 4 := xI_add rfl rfl ey_45 (by omega) (by omega)
    refine va_sld hx hb hX hbl hbA hS (vin (by omega) (by omega)) dL_law_932 ?_
    refine lv_topi (fun y_46 ey_46 => ?_)
    rw [show y_46 = p3 from by rw [ey_46, ey_45]; exact hp3.symm]
    refine lv_aload_n hx hb dL_law_933 rfl (lv_at hl 0 rfl) ?_
    refine lv_iload_n hx hb dL_law_934 rfl (lv_at hl 3 rfl) ?_
    refine lv_iconst (v := 5) hx hb dL_law_935 (by decide) ?_
    refine lv_iadd hx hb dL_law_936 ?_
    refine lv_topi (fun y_47 ey_47 => ?_)
    have ty_47 : y_47.toInt = i0.toInt + 5 := xI_add rfl rfl ey_47 (by omega) (by omega)
    refine va_sld hx hb hX hbl hbA hS (vin (by omega) (by omega)) dL_law_937 ?_
    refine lv_topi (fun y_48 ey_48 => ?_)
    rw [show y_48 = p4 from by rw [ey_48, ey_47]; exact hp4.symm]
    refine B_calll kd_0 hW (va_runV (As := [.int p0, .int p1, .int p2, .int p3, .int p4]) (rest := []) ⟨hx, hb, hml, hown, hts⟩ (c_X11_suits_bad l D k H.size (a 0) p0 p1 p2 p3 p4 _ hbad) (cwV 5 hts (gd_V hgd m1083 m1084 m1085 m117 m1086) rfl rfl rfl (by decide +kernel) ⟨Nat.le_of_ble_eq_true rfl, Nat.le_of_ble_eq_true rfl⟩) (cQ_V (Wd_sub hW kd_0).1 hK (Wd_sub hW kd_0).2 (ci := 11) (q0 := 0) rfl rfl) rfl rfl hl.1 rfl (lv_room (Nat.le_of_ble_eq_true rfl)) dL_law_938 ⟨Nat.le_of_ble_eq_true rfl, Nat.le_of_ble_eq_true rfl⟩) hS hA (fun r_49 H locs hr_50 hW hS => ?_)
    have hr_50 : r_49 = _ := hr_50
    refine lv_aload_n hx hb dL_law_941 rfl (lv_at hl 2 rfl) ?_
    refine lv_aload_n hx hb dL_law_942 rfl (lv_at hl 0 rfl) ?_
    refine lv_iload_n hx hb dL_law_943 rfl (lv_at hl 3 rfl) ?_
    refine lv_iconst (v := 1) hx hb dL_law_944 (by decide) ?_
    refine lv_iadd hx hb dL_law_945 ?_
    refine lv_topi (fun y_51 ey_51 => ?_)
    have ty_51 : y_51.toInt = i0.toInt + 1 := xI_add rfl rfl ey_51 (by omega) (by omega)
    refine va_sld hx hb hX hbl hbA hS (vin (by omega) (by omega)) dL_law_946 ?_
    refine lv_topi (fun y_52 ey_52 => ?_)
    rw [show y_52 = p0 from by rw [ey_52, ey_51]; exact hp0.symm]
    refine lv_aload_n hx hb dL_law_947 rfl (lv_at hl 0 rfl) ?_
    refine lv_iload_n hx hb dL_law_948 rfl (lv_at hl 3 rfl) ?_
    refine lv_iconst (v := 2) hx hb dL_law_949 (by decide) ?_
    refine lv_iadd hx hb dL_law_950 ?_
    refine lv_topi (fun y_53 ey_53 => ?_)
    have ty_53 : y_53.toInt = i0.toInt + 2 := xI_add rfl rfl ey_53 (by omega) (by omega)
    refine va_sld hx hb hX hbl hbA hS (vin (by omega) (by omega)) dL_law_951 ?_
    refine lv_topi (fun y_54 ey_54 => ?_)
    rw [show y_54 = p1 from by rw [ey_54, ey_53]; exact hp1.symm]
    refine lv_aload_n hx hb dL_law_952 rfl (lv_at hl 0 rfl) ?_
    refine lv_iload_n hx hb dL_law_953 rfl (lv_at hl 3 rfl) ?_
    refine lv_iconst (v := 3) hx hb dL_law_954 (by decide) ?_
    refine lv_iadd hx hb dL_law_955 ?_
    refine lv_topi (fun y_55 ey_55 => ?_)
    have ty_55 : y_55.toInt = i0.toInt + 3 := xI_add rfl rfl ey_55 (by omega) (by omega)
    refine va_sld hx hb hX hbl hbA hS (vin (by omega) (by omega)) dL_law_956 ?_
    refine lv_topi (fun y_56 ey_56 => ?_)
    rw [show y_56 = p2 from by rw [ey_56, ey_55]; exact hp2.symm]
    refine lv_aload_n hx hb dL_law_957 rfl (lv_at hl 0 rfl) ?_
    refine lv_iload_n hx hb dL_law_958 rfl (lv_at hl 3 rfl) ?_
    refine lv_iconst (v := 4) hx hb dL_law_959 (by decide) ?_
    refine lv_iadd hx hb dL_law_960 ?_
    refine lv_topi (fun y_57 ey_57 => ?_)
    have ty_57 : y_57.toInt = i0.toInt + 4 := xI_add rfl rfl ey_57 (by omega) (by omega)
    refine va_sld hx hb hX hbl hbA hS (vin (by omega) (by omega)) dL_law_961 ?_
    refine lv_topi (fun y_58 ey_58 => ?_)
    rw [show y_58 = p3 from by rw [ey_58, ey_57]; exact hp3.symm]
    refine lv_aload_n hx hb dL_law_962 rfl (lv_at hl 0 rfl) ?_
    refine lv_iload_n hx hb dL_law_963 rfl (lv_at hl 3 rfl) ?_
    refine lv_iconst (v := 5) hx hb dL_law_964 (by decide) ?_
    refine lv_iadd hx hb dL_law_965 ?_
    refine lv_topi (fun y_59 ey_59 => ?_)
    have ty_59 : y_59.toInt = i0.toInt + 5 := xI_add rfl rfl ey_59 (by omega) (by omega)
    refine va_sld hx hb hX hbl hbA hS (vin (by omega) (by omega)) dL_law_966 ?_
    refine lv_topi (fun y_60 ey_60 => ?_)
    rw [show y_60 = p4 from by rw [ey_60, ey_59]; exact hp4.symm]
    refine B_calll kd_66 hW (va_runV (As := [.int p0, .int p1, .int p2, .int p3, .int p4]) (rest := [.long r_49]) ⟨hx, hb, hml, hown, hts⟩ (c_X12_suits_bad l D k H.size (a 66) p0 p1 p2 p3 p4 _ hbad) (cwV 5 hts (gd_V hgd m1923 m1924 m1925 m131 m1926) rfl rfl rfl (by decide +kernel) ⟨Nat.le_of_ble_eq_true rfl, Nat.le_of_ble_eq_true rfl⟩) (cQ_V (Wd_sub hW kd_66).1 hK (Wd_sub hW kd_66).2 (ci := 12) (q0 := 0) rfl rfl) rfl rfl hl.1 rfl (lv_room (Nat.le_of_ble_eq_true rfl)) dL_law_967 ⟨Nat.le_of_ble_eq_true rfl, Nat.le_of_ble_eq_true rfl⟩) hS hA (fun r_61 H locs hr_62 hW hS => ?_)
    have hr_62 : r_61 = _ := hr_62
    have heq_ : r_49 = r_61 := hr_50.trans hr_62.symm
    refine W.lcmp hx hb dL_law_970 ?_
    refine lv_topi (fun y_63 ey_63 => ?_)
    have ty_63 := lcmp_rng ey_63
    have u_64 : y_63.toInt = 0 := lc_same ey_63 heq_
    refine lv_if_eq (tgt := 1642) hx hb dL_law_971 (by decide) (fun c_65 => ?_) (fun c_65 => ?_)
    · have c_65 : y_63.toInt = 0 := xI_eq rfl rfl c_65
      have b_66 : 0 ≤ (G.1 0 11).toInt ∧ (G.1 0 11).toInt ≤ 1600 := hB_G.i 0 11 rfl rfl
      have b_67 : 0 ≤ (G.1 30 4).toInt ∧ (G.1 30 4).toInt ≤ 40 := hB_G.i 30 4 rfl rfl
      have b_68 : 0 ≤ (G.1 30 5).toInt ∧ (G.1 30 5).toInt ≤ 40 := hB_G.i 30 5 rfl rfl
      have b_69 : 0 ≤ (G.1 31 6).toInt ∧ (G.1 31 6).toInt ≤ 100000 := hB_G.i 31 6 rfl rfl
      have b_70 : 0 ≤ (G.1 66 1).toInt ∧ (G.1 66 1).toInt ≤ 1600 := hB_G.i 66 1 rfl rfl
      have b_71 : 0 ≤ (G.1 66 78).toInt ∧ (G.1 66 78).toInt ≤ 40 := hB_G.i 66 78 rfl rfl
      have b_72 : 0 ≤ (G.1 66 79).toInt ∧ (G.1 66 79).toInt ≤ 40 := hB_G.i 66 79 rfl rfl
      have b_73 : 0 ≤ (G.1 66 86).toInt ∧ (G.1 66 86).toInt ≤ 100000 := hB_G.i 66 86 rfl rfl
      have b_74 : 0 ≤ (G.1 96 0).toInt ∧ (G.1 96 0).toInt ≤ 9 := hB_G.i 96 0 rfl rfl
      have b_75 : 0 ≤ (G.1 96 1).toInt ∧ (G.1 96 1).toInt ≤ 9 := hB_G.i 96 1 rfl rfl
      have b_76 : 0 ≤ (G.1 96 2).toInt ∧ (G.1 96 2).toInt ≤ 9 := hB_G.i 96 2 rfl rfl
      exact K G _ _ _ (Or.inl ⟨hv_0_0, hv_0_1, hv_6_4, by omega, by omega, by omega, by omega, by omega, by omega, by omega, by omega, by omega⟩) hB_G hW hS (lv_sub hl [0, 1, 2, 3] rfl)
    · have c_65 : y_63.toInt ≠ 0 := xI_ne rfl rfl c_65
      exfalso; omega
  · skip
    obtain ⟨p0, hp0⟩ : ∃ y, y = xs (i0 + 1).toNatClampNeg := ⟨_, rfl⟩
    obtain ⟨p1, hp1⟩ : ∃ y, y = xs (i0 + 2).toNatClampNeg := ⟨_, rfl⟩
    obtain ⟨p2, hp2⟩ : ∃ y, y = xs (i0 + 3).toNatClampNeg := ⟨_, rfl⟩
    obtain ⟨p3, hp3⟩ : ∃ y, y = xs (i0 + 4).toNatClampNeg := ⟨_, rfl⟩
    obtain ⟨p4, hp4⟩ : ∃ y, y = xs (i0 + 5).toNatClampNeg := ⟨_, rfl⟩
    by_cases hv : ¬ s_endless p0 p1 p4 = 0 ∧ ¬ s_endless p2 p3 p4 = 0
    · skip
      obtain ⟨n0, n1, n4, hn, e0, e1, e4⟩ := endless_nats hv.1
      obtain ⟨n2, n3, n5, hn2, e2, e3, e5⟩ := endless_nats hv.2
      subst e0 e1 e2 e3 e4
      have hn3 : n4 = n5 := (nI_eq (by omega) (by omega)).mp e5
      refine lv_aload_n hx hb dL_law_912 rfl (lv_at hl 1 rfl) ?_
      refine lv_aload_n hx hb dL_law_913 rfl (lv_at hl 0 rfl) ?_
      refine lv_iload_n hx hb dL_law_914 rfl (lv_at hl 3 rfl) ?_
      refine lv_iconst (v := 1) hx hb dL_law_915 (by decide) ?_
      refine lv_iadd hx hb dL_law_916 ?_
      refine lv_topi (fun y_1 ey_1 => ?_)
      have ty_1 : y_1.toInt = i0.toInt + 1 := xI_add rfl rfl ey_1 (by omega) (by omega)
      refine va_sld hx hb hX hbl hbA hS (vin (by omega) (by omega)) dL_law_917 ?_
      refine lv_topi (fun y_2 ey_2 => ?_)
      rw [show y_2 = (nI n0) from by rw [ey_2, ey_1]; exact hp0.symm]
      refine lv_aload_n hx hb dL_law_918 rfl (lv_at hl 0 rfl) ?_
      refine lv_iload_n hx hb dL_law_919 rfl (lv_at hl 3 rfl) ?_
      refine lv_iconst (v := 2) hx hb dL_law_920 (by decide) ?_
      refine lv_iadd hx hb dL_law_921 ?_
      refine lv_topi (fun y_3 ey_3 => ?_)
      have ty_3 : y_3.toInt = i0.toInt + 2 := xI_add rfl rfl ey_3 (by omega) (by omega)
      refine va_sld hx hb hX hbl hbA hS (vin (by omega) (by omega)) dL_law_922 ?_
      refine lv_topi (fun y_4 ey_4 => ?_)
      rw [show y_4 = (nI n1) from by rw [ey_4, ey_3]; exact hp1.symm]
      refine lv_aload_n hx hb dL_law_923 rfl (lv_at hl 0 rfl) ?_
      refine lv_iload_n hx hb dL_law_924 rfl (lv_at hl 3 rfl) ?_
      refine lv_iconst (v := 3) hx hb dL_law_925 (by decide) ?_
      refine lv_iadd hx hb dL_law_926 ?_
      refine lv_topi (fun y_5 ey_5 => ?_)
      have ty_5 : y_5.toInt = i0.toInt + 3 := xI_add rfl rfl ey_5 (by omega) (by omega)
      refine va_sld hx hb hX hbl hbA hS (vin (by omega) (by omega)) dL_law_927 ?_
      refine lv_topi (fun y_6 ey_6 => ?_)
      rw [show y_6 = (nI n2) from by rw [ey_6, ey_5]; exact hp2.symm]
      refine lv_aload_n hx hb dL_law_928 rfl (lv_at hl 0 rfl) ?_
      refine lv_iload_n hx hb dL_law_929 rfl (lv_at hl 3 rfl) ?_
      refine lv_iconst (v := 4) hx hb dL_law_930 (by decide) ?_
      refine lv_iadd hx hb dL_law_931 ?_
      refine lv_topi (fun y_7 ey_7 => ?_)
      have ty_7 : y_7.toInt = i0.toInt + 4 := xI_add rfl rfl ey_7 (by omega) (by omega)
      refine va_sld hx hb hX hbl hbA hS (vin (by omega) (by omega)) dL_law_932 ?_
      refine lv_topi (fun y_8 ey_8 => ?_)
      rw [show y_8 = (nI n3) from by rw [ey_8, ey_7]; exact hp3.symm]
      refine lv_aload_n hx hb dL_law_933 rfl (lv_at hl 0 rfl) ?_
      refine lv_iload_n hx hb dL_law_934 rfl (lv_at hl 3 rfl) ?_
      refine lv_iconst (v := 5) hx hb dL_law_935 (by decide) ?_
      refine lv_iadd hx hb dL_law_936 ?_
      refine lv_topi (fun y_9 ey_9 => ?_)
      have ty_9 : y_9.toInt = i0.toInt + 5 := xI_add rfl rfl ey_9 (by omega) (by omega)
      refine va_sld hx hb hX hbl hbA hS (vin (by omega) (by omega)) dL_law_937 ?_
      refine lv_topi (fun y_10 ey_10 => ?_)
      rw [show y_10 = (nI n4) from by rw [ey_10, ey_9]; exact hp4.symm]
      refine B_calll kd_0 hW (va_runV (As := [.int (nI n0), .int (nI n1), .int (nI n2), .int (nI n3), .int (nI n4)]) (rest := []) ⟨hx, hb, hml, hown, hts⟩ (c_X11_suits_ok l D k H.size (a 0) n0 n1 n2 n3 n4 _ (by omega) (by omega) (by omega) (by omega) (by omega) (by omega) (by omega) (by omega)) (cwV 5 hts (gd_V hgd m1083 m1084 m1085 m117 m1086) rfl rfl rfl (by decide +kernel) ⟨Nat.le_of_ble_eq_true rfl, Nat.le_of_ble_eq_true rfl⟩) (cQ_V (Wd_sub hW kd_0).1 hK (Wd_sub hW kd_0).2 (ci := 11) (q0 := 0) rfl rfl) rfl rfl hl.1 rfl (lv_room (Nat.le_of_ble_eq_true rfl)) dL_law_938 ⟨Nat.le_of_ble_eq_true rfl, Nat.le_of_ble_eq_true rfl⟩) hS hA (fun r_11 H locs hr_12 hW hS => ?_)
      have hr_12 : r_11 = _ := hr_12
      refine lv_aload_n hx hb dL_law_941 rfl (lv_at hl 2 rfl) ?_
      refine lv_aload_n hx hb dL_law_942 rfl (lv_at hl 0 rfl) ?_
      refine lv_iload_n hx hb dL_law_943 rfl (lv_at hl 3 rfl) ?_
      refine lv_iconst (v := 1) hx hb dL_law_944 (by decide) ?_
      refine lv_iadd hx hb dL_law_945 ?_
      refine lv_topi (fun y_13 ey_13 => ?_)
      have ty_13 : y_13.toInt = i0.toInt + 1 := xI_add rfl rfl ey_13 (by omega) (by omega)
      refine va_sld hx hb hX hbl hbA hS (vin (by omega) (by omega)) dL_law_946 ?_
      refine lv_topi (fun y_14 ey_14 => ?_)
      rw [show y_14 = (nI n0) from by rw [ey_14, ey_13]; exact hp0.symm]
      refine lv_aload_n hx hb dL_law_947 rfl (lv_at hl 0 rfl) ?_
      refine lv_iload_n hx hb dL_law_948 rfl (lv_at hl 3 rfl) ?_
      refine lv_iconst (v := 2) hx hb dL_law_949 (by decide) ?_
      refine lv_iadd hx hb dL_law_950 ?_
      refine lv_topi (fun y_15 ey_15 => ?_)
      have ty_15 : y_15.toInt = i0.toInt + 2 := xI_add rfl rfl ey_15 (by omega) (by omega)
      refine va_sld hx hb hX hbl hbA hS (vin (by omega) (by omega)) dL_law_951 ?_
      refine lv_topi (fun y_16 ey_16 => ?_)
      rw [show y_16 = (nI n1) from by rw [ey_16, ey_15]; exact hp1.symm]
      refine lv_aload_n hx hb dL_law_952 rfl (lv_at hl 0 rfl) ?_
      refine lv_iload_n hx hb dL_law_953 rfl (lv_at hl 3 rfl) ?_
      refine lv_iconst (v := 3) hx hb dL_law_954 (by decide) ?_
      refine lv_iadd hx hb dL_law_955 ?_
      refine lv_topi (fun y_17 ey_17 => ?_)
      have ty_17 : y_17.toInt = i0.toInt + 3 := xI_add rfl rfl ey_17 (by omega) (by omega)
      refine va_sld hx hb hX hbl hbA hS (vin (by omega) (by omega)) dL_law_956 ?_
      refine lv_topi (fun y_18 ey_18 => ?_)
      rw [show y_18 = (nI n2) from by rw [ey_18, ey_17]; exact hp2.symm]
      refine lv_aload_n hx hb dL_law_957 rfl (lv_at hl 0 rfl) ?_
      refine lv_iload_n hx hb dL_law_958 rfl (lv_at hl 3 rfl) ?_
      refine lv_iconst (v := 4) hx hb dL_law_959 (by decide) ?_
      refine lv_iadd hx hb dL_law_960 ?_
      refine lv_topi (fun y_19 ey_19 => ?_)
      have ty_19 : y_19.toInt = i0.toInt + 4 := xI_add rfl rfl ey_19 (by omega) (by omega)
      refine va_sld hx hb hX hbl hbA hS (vin (by omega) (by omega)) dL_law_961 ?_
      refine lv_topi (fun y_20 ey_20 => ?_)
      rw [show y_20 = (nI n3) from by rw [ey_20, ey_19]; exact hp3.symm]
      refine lv_aload_n hx hb dL_law_962 rfl (lv_at hl 0 rfl) ?_
      refine lv_iload_n hx hb dL_law_963 rfl (lv_at hl 3 rfl) ?_
      refine lv_iconst (v := 5) hx hb dL_law_964 (by decide) ?_
      refine lv_iadd hx hb dL_law_965 ?_
      refine lv_topi (fun y_21 ey_21 => ?_)
      have ty_21 : y_21.toInt = i0.toInt + 5 := xI_add rfl rfl ey_21 (by omega) (by omega)
      refine va_sld hx hb hX hbl hbA hS (vin (by omega) (by omega)) dL_law_966 ?_
      refine lv_topi (fun y_22 ey_22 => ?_)
      rw [show y_22 = (nI n4) from by rw [ey_22, ey_21]; exact hp4.symm]
      refine B_calll kd_66 hW (va_runV (As := [.int (nI n0), .int (nI n1), .int (nI n2), .int (nI n3), .int (nI n4)]) (rest := [.long r_11]) ⟨hx, hb, hml, hown, hts⟩ (c_X12_suits_ok l D k H.size (a 66) n0 n1 n2 n3 n4 _ (by omega) (by omega) (by omega) (by omega) (by omega) (by omega) (by omega) (by omega)) (cwV 5 hts (gd_V hgd m1923 m1924 m1925 m131 m1926) rfl rfl rfl (by decide +kernel) ⟨Nat.le_of_ble_eq_true rfl, Nat.le_of_ble_eq_true rfl⟩) (cQ_V (Wd_sub hW kd_66).1 hK (Wd_sub hW kd_66).2 (ci := 12) (q0 := 0) rfl rfl) rfl rfl hl.1 rfl (lv_room (Nat.le_of_ble_eq_true rfl)) dL_law_967 ⟨Nat.le_of_ble_eq_true rfl, Nat.le_of_ble_eq_true rfl⟩) hS hA (fun r_23 H locs hr_24 hW hS => ?_)
      have hr_24 : r_23 = _ := hr_24
      have heq_ : r_11 = r_23 := hr_12.trans hr_24.symm
      refine W.lcmp hx hb dL_law_970 ?_
      refine lv_topi (fun y_25 ey_25 => ?_)
      have ty_25 := lcmp_rng ey_25
      have u_26 : y_25.toInt = 0 := lc_same ey_25 heq_
      refine lv_if_eq (tgt := 1642) hx hb dL_law_971 (by decide) (fun c_27 => ?_) (fun c_27 => ?_)
      · have c_27 : y_25.toInt = 0 := xI_eq rfl rfl c_27
        have b_28 : 0 ≤ (G.1 0 11).toInt ∧ (G.1 0 11).toInt ≤ 1600 := hB_G.i 0 11 rfl rfl
        have b_29 : 0 ≤ (G.1 30 4).toInt ∧ (G.1 30 4).toInt ≤ 40 := hB_G.i 30 4 rfl rfl
        have b_30 : 0 ≤ (G.1 30 5).toInt ∧ (G.1 30 5).toInt ≤ 40 := hB_G.i 30 5 rfl rfl
        have b_31 : 0 ≤ (G.1 31 6).toInt ∧ (G.1 31 6).toInt ≤ 100000 := hB_G.i 31 6 rfl rfl
        have b_32 : 0 ≤ (G.1 66 1).toInt ∧ (G.1 66 1).toInt ≤ 1600 := hB_G.i 66 1 rfl rfl
        have b_33 : 0 ≤ (G.1 66 78).toInt ∧ (G.1 66 78).toInt ≤ 40 := hB_G.i 66 78 rfl rfl
        have b_34 : 0 ≤ (G.1 66 79).toInt ∧ (G.1 66 79).toInt ≤ 40 := hB_G.i 66 79 rfl rfl
        have b_35 : 0 ≤ (G.1 66 86).toInt ∧ (G.1 66 86).toInt ≤ 100000 := hB_G.i 66 86 rfl rfl
        have b_36 : 0 ≤ (G.1 96 0).toInt ∧ (G.1 96 0).toInt ≤ 9 := hB_G.i 96 0 rfl rfl
        have b_37 : 0 ≤ (G.1 96 1).toInt ∧ (G.1 96 1).toInt ≤ 9 := hB_G.i 96 1 rfl rfl
        have b_38 : 0 ≤ (G.1 96 2).toInt ∧ (G.1 96 2).toInt ≤ 9 := hB_G.i 96 2 rfl rfl
        exact K G _ _ _ (Or.inr ⟨hv_0_0, hv_0_1, hv_6_4, by omega, by omega, by omega, by omega, by omega, by omega, by omega, by omega, by omega⟩) hB_G hW hS (lv_sub hl [0, 1, 2, 3] rfl)
      · have c_27 : y_25.toInt ≠ 0 := xI_ne rfl rfl c_27
        exfalso; omega
    have hbad := hv
    refine lv_aload_n hx hb dL_law_912 rfl (lv_at hl 1 rfl) ?_
    refine lv_aload_n hx hb dL_law_913 rfl (lv_at hl 0 rfl) ?_
    refine lv_iload_n hx hb dL_law_914 rfl (lv_at hl 3 rfl) ?_
    refine lv_iconst (v := 1) hx hb dL_law_915 (by decide) ?_
    refine lv_iadd hx hb dL_law_916 ?_
    refine lv_topi (fun y_39 ey_39 => ?_)
    have ty_39 : y_39.toInt = i0.toInt + 1 := xI_add rfl rfl ey_39 (by omega) (by omega)
    refine va_sld hx hb hX hbl hbA hS (vin (by omega) (by omega)) dL_law_917 ?_
    refine lv_topi (fun y_40 ey_40 => ?_)
    rw [show y_40 = p0 from by rw [ey_40, ey_39]; exact hp0.symm]
    refine lv_aload_n hx hb dL_law_918 rfl (lv_at hl 0 rfl) ?_
    refine lv_iload_n hx hb dL_law_919 rfl (lv_at hl 3 rfl) ?_
    refine lv_iconst (v := 2) hx hb dL_law_920 (by decide) ?_
    refine lv_iadd hx hb dL_law_921 ?_
    refine lv_topi (fun y_41 ey_41 => ?_)
    have ty_41 : y_41.toInt = i0.toInt + 2 := xI_add rfl rfl ey_41 (by omega) (by omega)
    refine va_sld hx hb hX hbl hbA hS (vin (by omega) (by omega)) dL_law_922 ?_
    refine lv_topi (fun y_42 ey_42 => ?_)
    rw [show y_42 = p1 from by rw [ey_42, ey_41]; exact hp1.symm]
    refine lv_aload_n hx hb dL_law_923 rfl (lv_at hl 0 rfl) ?_
    refine lv_iload_n hx hb dL_law_924 rfl (lv_at hl 3 rfl) ?_
    refine lv_iconst (v := 3) hx hb dL_law_925 (by decide) ?_
    refine lv_iadd hx hb dL_law_926 ?_
    refine lv_topi (fun y_43 ey_43 => ?_)
    have ty_43 : y_43.toInt = i0.toInt + 3 := xI_add rfl rfl ey_43 (by omega) (by omega)
    refine va_sld hx hb hX hbl hbA hS (vin (by omega) (by omega)) dL_law_927 ?_
    refine lv_topi (fun y_44 ey_44 => ?_)
    rw [show y_44 = p2 from by rw [ey_44, ey_43]; exact hp2.symm]
    refine lv_aload_n hx hb dL_law_928 rfl (lv_at hl 0 rfl) ?_
    refine lv_iload_n hx hb dL_law_929 rfl (lv_at hl 3 rfl) ?_
    refine lv_iconst (v := 4) hx hb dL_law_930 (by decide) ?_
    refine lv_iadd hx hb dL_law_931 ?_
    refine lv_topi (fun y_45 ey_45 => ?_)
    have ty_45 : y_45.toInt = i0.toInt + 4 := xI_add rfl rfl ey_45 (by omega) (by omega)
    refine va_sld hx hb hX hbl hbA hS (vin (by omega) (by omega)) dL_law_932 ?_
    refine lv_topi (fun y_46 ey_46 => ?_)
    rw [show y_46 = p3 from by rw [ey_46, ey_45]; exact hp3.symm]
    refine lv_aload_n hx hb dL_law_933 rfl (lv_at hl 0 rfl) ?_
    refine lv_iload_n hx hb dL_law_934 rfl (lv_at hl 3 rfl) ?_
    refine lv_iconst (v := 5) hx hb dL_law_935 (by decide) ?_
    refine lv_iadd hx hb dL_law_936 ?_
    refine lv_topi (fun y_47 ey_47 => ?_)
    have ty_47 : y_47.toInt = i0.toInt + 5 := xI_add rfl rfl ey_47 (by omega) (by omega)
    refine va_sld hx hb hX hbl hbA hS (vin (by omega) (by omega)) dL_law_937 ?_
    refine lv_topi (fun y_48 ey_48 => ?_)
    rw [show y_48 = p4 from by rw [ey_48, ey_47]; exact hp4.symm]
    refine B_calll kd_0 hW (va_runV (As := [.int p0, .int p1, .int p2, .int p3, .int p4]) (rest := []) ⟨hx, hb, hml, hown, hts⟩ (c_X11_suits_bad l D k H.size (a 0) p0 p1 p2 p3 p4 _ hbad) (cwV 5 hts (gd_V hgd m1083 m1084 m1085 m117 m1086) rfl rfl rfl (by decide +kernel) ⟨Nat.le_of_ble_eq_true rfl, Nat.le_of_ble_eq_true rfl⟩) (cQ_V (Wd_sub hW kd_0).1 hK (Wd_sub hW kd_0).2 (ci := 11) (q0 := 0) rfl rfl) rfl rfl hl.1 rfl (lv_room (Nat.le_of_ble_eq_true rfl)) dL_law_938 ⟨Nat.le_of_ble_eq_true rfl, Nat.le_of_ble_eq_true rfl⟩) hS hA (fun r_49 H locs hr_50 hW hS => ?_)
    have hr_50 : r_49 = _ := hr_50
    refine lv_aload_n hx hb dL_law_941 rfl (lv_at hl 2 rfl) ?_
    refine lv_aload_n hx hb dL_law_942 rfl (lv_at hl 0 rfl) ?_
    refine lv_iload_n hx hb dL_law_943 rfl (lv_at hl 3 rfl) ?_
    refine lv_iconst (v := 1) hx hb dL_law_944 (by decide) ?_
    refine lv_iadd hx hb dL_law_945 ?_
    refine lv_topi (fun y_51 ey_51 => ?_)
    have ty_51 : y_51.toInt = i0.toInt + 1 := xI_add rfl rfl ey_51 (by omega) (by omega)
    refine va_sld hx hb hX hbl hbA hS (vin (by omega) (by omega)) dL_law_946 ?_
    refine lv_topi (fun y_52 ey_52 => ?_)
    rw [show y_52 = p0 from by rw [ey_52, ey_51]; exact hp0.symm]
    refine lv_aload_n hx hb dL_law_947 rfl (lv_at hl 0 rfl) ?_
    refine lv_iload_n hx hb dL_law_948 rfl (lv_at hl 3 rfl) ?_
    refine lv_iconst (v := 2) hx hb dL_law_949 (by decide) ?_
    refine lv_iadd hx hb dL_law_950 ?_
    refine lv_topi (fun y_53 ey_53 => ?_)
    have ty_53 : y_53.toInt = i0.toInt + 2 := xI_add rfl rfl ey_53 (by omega) (by omega)
    refine va_sld hx hb hX hbl hbA hS (vin (by omega) (by omega)) dL_law_951 ?_
    refine lv_topi (fun y_54 ey_54 => ?_)
    rw [show y_54 = p1 from by rw [ey_54, ey_53]; exact hp1.symm]
    refine lv_aload_n hx hb dL_law_952 rfl (lv_at hl 0 rfl) ?_
    refine lv_iload_n hx hb dL_law_953 rfl (lv_at hl 3 rfl) ?_
    refine lv_iconst (v := 3) hx hb dL_law_954 (by decide) ?_
    refine lv_iadd hx hb dL_law_955 ?_
    refine lv_topi (fun y_55 ey_55 => ?_)
    have ty_55 : y_55.toInt = i0.toInt + 3 := xI_add rfl rfl ey_55 (by omega) (by omega)
    refine va_sld hx hb hX hbl hbA hS (vin (by omega) (by omega)) dL_law_956 ?_
    refine lv_topi (fun y_56 ey_56 => ?_)
    rw [show y_56 = p2 from by rw [ey_56, ey_55]; exact hp2.symm]
    refine lv_aload_n hx hb dL_law_957 rfl (lv_at hl 0 rfl) ?_
    refine lv_iload_n hx hb dL_law_958 rfl (lv_at hl 3 rfl) ?_
    refine lv_iconst (v := 4) hx hb dL_law_959 (by decide) ?_
    refine lv_iadd hx hb dL_law_960 ?_
    refine lv_topi (fun y_57 ey_57 => ?_)
    have ty_57 : y_57.toInt = i0.toInt + 4 := xI_add rfl rfl ey_57 (by omega) (by omega)
    refine va_sld hx hb hX hbl hbA hS (vin (by omega) (by omega)) dL_law_961 ?_
    refine lv_topi (fun y_58 ey_58 => ?_)
    rw [show y_58 = p3 from by rw [ey_58, ey_57]; exact hp3.symm]
    refine lv_aload_n hx hb dL_law_962 rfl (lv_at hl 0 rfl) ?_
    refine lv_iload_n hx hb dL_law_963 rfl (lv_at hl 3 rfl) ?_
    refine lv_iconst (v := 5) hx hb dL_law_964 (by decide) ?_
    refine lv_iadd hx hb dL_law_965 ?_
    refine lv_topi (fun y_59 ey_59 => ?_)
    have ty_59 : y_59.toInt = i0.toInt + 5 := xI_add rfl rfl ey_59 (by omega) (by omega)
    refine va_sld hx hb hX hbl hbA hS (vin (by omega) (by omega)) dL_law_966 ?_
    refine lv_topi (fun y_60 ey_60 => ?_)
    rw [show y_60 = p4 from by rw [ey_60, ey_59]; exact hp4.symm]
    refine B_calll kd_66 hW (va_runV (As := [.int p0, .int p1, .int p2, .int p3, .int p4]) (rest := [.long r_49]) ⟨hx, hb, hml, hown, hts⟩ (c_X12_suits_bad l D k H.size (a 66) p0 p1 p2 p3 p4 _ hbad) (cwV 5 hts (gd_V hgd m1923 m1924 m1925 m131 m1926) rfl rfl rfl (by decide +kernel) ⟨Nat.le_of_ble_eq_true rfl, Nat.le_of_ble_eq_true rfl⟩) (cQ_V (Wd_sub hW kd_66).1 hK (Wd_sub hW kd_66).2 (ci := 12) (q0 := 0) rfl rfl) rfl rfl hl.1 rfl (lv_room (Nat.le_of_ble_eq_true rfl)) dL_law_967 ⟨Nat.le_of_ble_eq_true rfl, Nat.le_of_ble_eq_true rfl⟩) hS hA (fun r_61 H locs hr_62 hW hS => ?_)
    have hr_62 : r_61 = _ := hr_62
    have heq_ : r_49 = r_61 := hr_50.trans hr_62.symm
    refine W.lcmp hx hb dL_law_970 ?_
    refine lv_topi (fun y_63 ey_63 => ?_)
    have ty_63 := lcmp_rng ey_63
    have u_64 : y_63.toInt = 0 := lc_same ey_63 heq_
    refine lv_if_eq (tgt := 1642) hx hb dL_law_971 (by decide) (fun c_65 => ?_) (fun c_65 => ?_)
    · have c_65 : y_63.toInt = 0 := xI_eq rfl rfl c_65
      have b_66 : 0 ≤ (G.1 0 11).toInt ∧ (G.1 0 11).toInt ≤ 1600 := hB_G.i 0 11 rfl rfl
      have b_67 : 0 ≤ (G.1 30 4).toInt ∧ (G.1 30 4).toInt ≤ 40 := hB_G.i 30 4 rfl rfl
      have b_68 : 0 ≤ (G.1 30 5).toInt ∧ (G.1 30 5).toInt ≤ 40 := hB_G.i 30 5 rfl rfl
      have b_69 : 0 ≤ (G.1 31 6).toInt ∧ (G.1 31 6).toInt ≤ 100000 := hB_G.i 31 6 rfl rfl
      have b_70 : 0 ≤ (G.1 66 1).toInt ∧ (G.1 66 1).toInt ≤ 1600 := hB_G.i 66 1 rfl rfl
      have b_71 : 0 ≤ (G.1 66 78).toInt ∧ (G.1 66 78).toInt ≤ 40 := hB_G.i 66 78 rfl rfl
      have b_72 : 0 ≤ (G.1 66 79).toInt ∧ (G.1 66 79).toInt ≤ 40 := hB_G.i 66 79 rfl rfl
      have b_73 : 0 ≤ (G.1 66 86).toInt ∧ (G.1 66 86).toInt ≤ 100000 := hB_G.i 66 86 rfl rfl
      have b_74 : 0 ≤ (G.1 96 0).toInt ∧ (G.1 96 0).toInt ≤ 9 := hB_G.i 96 0 rfl rfl
      have b_75 : 0 ≤ (G.1 96 1).toInt ∧ (G.1 96 1).toInt ≤ 9 := hB_G.i 96 1 rfl rfl
      have b_76 : 0 ≤ (G.1 96 2).toInt ∧ (G.1 96 2).toInt ≤ 9 := hB_G.i 96 2 rfl rfl
      exact K G _ _ _ (Or.inr ⟨hv_0_0, hv_0_1, hv_6_4, by omega, by omega, by omega, by omega, by omega, by omega, by omega, by omega, by omega⟩) hB_G hW hS (lv_sub hl [0, 1, 2, 3] rfl)
    · have c_65 : y_63.toInt ≠ 0 := xI_ne rfl rfl c_65
      exfalso; omega

set_option maxHeartbeats 4000000 in
set_option maxRecDepth 100000 in
theorem law_17 {p : Program} {l : Launch} {e : Env} {s : State} {m : MethodId} {below : List Frame} {meth : Method} {c : Code} {D : va_G} {k : KT} {A : Nat → Prop} {a : Nat → Nat} {z : SK} {b L : Nat} {xs : Nat → Int32} (hL : L ≤ 3072) (C0 : lw_At p s m meth c b L xs) (hK : cK D k s) (hZ : Sx A z s) (hbA : ¬ A b) (hA : ∀ q : Nat, s.heap.size ≤ q → A q) {G : GS} {i0 : Int32} (hi0 : 0 ≤ i0.toInt) (hi6 : i0.toInt + 6 ≤ L) (hI : LI G) (hB_G : Bd G) {H : Heap} {locs : List Loc} {ls : Array Slot} (hW : Wd D k A a G H) (hS : va_S A s.heap H locs) (hl : lv_has ls 4 [(0, .ref b), (1, .ref (a 0)), (2, .ref (a 66)), (3, .int i0)]) (K : ∀ (G1 : GS) (H1 : Heap) (locs1 : List Loc) (ls1 : Array Slot), LI G1 → Bd G1 → Wd D k A a G1 H1 → va_S A s.heap H1 locs1 → lv_has ls1 4 [(0, .ref b), (1, .ref (a 0)), (2, .ref (a 66)), (3, .int i0)] → W p l e room_1 s m #[Value.ref b] below meth c H1 locs1 119 46443 (lw_Z below #[Value.ref b] s) (F0 m 1642 ls1 [])) : W p l e room_1 s m #[Value.ref b] below meth c H locs 119 46443 (lw_Z below #[Value.ref b] s) (F0 m 976 ls []) := by
  obtain ⟨hx, hb, hr, hml, hown, hts, hX, hbl, hlocks, hgv⟩ := id C0
  have hown : s.vm.findClass RL = some m.cls := hown
  have hgd : ∀ w ∈ gd, w ∈ lw_tbl := fun w h => (List.mem_filter.mp h).1
  have hg : ∀ w ∈ gd, w.before #[Value.ref b] s = true := fun w h => hts w (hgd w h)
  rcases hI with ⟨hv_0_0, hv_0_1, hv_6_4, hj0, hj1, hj2, hj3, hj4, hj5, hj6, hj7, hj8⟩ | ⟨hv_0_0, hv_0_1, hv_6_4, hj0, hj1, hj2, hj3, hj4, hj5, hj6, hj7, hj8⟩
  · skip
    refine lv_aload_n hx hb dL_law_976 rfl (lv_at hl 1 rfl) ?_
    refine lv_aload_n hx hb dL_law_977 rfl (lv_at hl 0 rfl) ?_
    refine lv_iload_n hx hb dL_law_978 rfl (lv_at hl 3 rfl) ?_
    refine lv_iconst (v := 1) hx hb dL_law_979 (by decide) ?_
    refine lv_iadd hx hb dL_law_980 ?_
    refine lv_topi (fun y_1 ey_1 => ?_)
    have ty_1 : y_1.toInt = i0.toInt + 1 := xI_add rfl rfl ey_1 (by omega) (by omega)
    refine va_sld hx hb hX hbl hbA hS (vin (by omega) (by omega)) dL_law_981 ?_
    refine lv_topi (fun y_2 ey_2 => ?_)
    have u_3 : y_2.toInt = (xs (i0 + 1).toNatClampNeg).toInt := by rw [ey_2, ey_1]
    refine lv_aload_n hx hb dL_law_982 rfl (lv_at hl 0 rfl) ?_
    refine lv_iload_n hx hb dL_law_983 rfl (lv_at hl 3 rfl) ?_
    refine lv_iconst (v := 2) hx hb dL_law_984 (by decide) ?_
    refine lv_iadd hx hb dL_law_985 ?_
    refine lv_topi (fun y_4 ey_4 => ?_)
    have ty_4 : y_4.toInt = i0.toInt + 2 := xI_add rfl rfl ey_4 (by omega) (by omega)
    refine va_sld hx hb hX hbl hbA hS (vin (by omega) (by omega)) dL_law_986 ?_
    refine lv_topi (fun y_5 ey_5 => ?_)
    have u_6 : y_5.toInt = (xs (i0 + 2).toNatClampNeg).toInt := by rw [ey_5, ey_4]
    refine lv_aload_n hx hb dL_law_987 rfl (lv_at hl 0 rfl) ?_
    refine lv_iload_n hx hb dL_law_988 rfl (lv_at hl 3 rfl) ?_
    refine lv_iconst (v := 3) hx hb dL_law_989 (by decide) ?_
    refine lv_iadd hx hb dL_law_990 ?_
    refine lv_topi (fun y_7 ey_7 => ?_)
    have ty_7 : y_7.toInt = i0.toInt + 3 := xI_add rfl rfl ey_7 (by omega) (by omega)
    refine va_sld hx hb hX hbl hbA hS (vin (by omega) (by omega)) dL_law_991 ?_
    refine lv_topi (fun y_8 ey_8 => ?_)
    have u_9 : y_8.toInt = (xs (i0 + 3).toNatClampNeg).toInt := by rw [ey_8, ey_7]
    refine S_calli (va_runV (As := [.int y_2, .int y_5, .int y_8]) (rest := []) ⟨hx, hb, hml, hown, hts⟩ (k_Wkeeps_1 l D k A a z G y_2 y_5 y_8 hv_0_0 hv_0_1 hv_6_4) (cwV 3 hts (gd_V hgd m1087 m1088 m1089 m117 m1090) rfl rfl rfl (by decide +kernel) ⟨Nat.le_of_ble_eq_true rfl, Nat.le_of_ble_eq_true rfl⟩) (pre_V hW hB_G hK hZ hS kd_0 rfl) rfl rfl hl.1 rfl (lv_room (Nat.le_of_ble_eq_true rfl)) dL_law_992 ⟨Nat.le_of_ble_eq_true rfl, Nat.le_of_ble_eq_true rfl⟩) hS (fun r_10 G_11 H locs hpo hW hS => ?_)
    obtain ⟨hB_G_11, hq_12⟩ := hpo
    refine lv_pop hx hb dL_law_995 rfl ?_
    refine lv_aload_n hx hb dL_law_996 rfl (lv_at hl 2 rfl) ?_
    refine lv_aload_n hx hb dL_law_997 rfl (lv_at hl 0 rfl) ?_
    refine lv_iload_n hx hb dL_law_998 rfl (lv_at hl 3 rfl) ?_
    refine lv_iconst (v := 1) hx hb dL_law_999 (by decide) ?_
    refine lv_iadd hx hb dL_law_1000 ?_
    refine lv_topi (fun y_14 ey_14 => ?_)
    have ty_14 : y_14.toInt = i0.toInt + 1 := xI_add rfl rfl ey_14 (by omega) (by omega)
    refine va_sld hx hb hX hbl hbA hS (vin (by omega) (by omega)) dL_law_1001 ?_
    refine lv_topi (fun y_15 ey_15 => ?_)
    have u_16 : y_15.toInt = (xs (i0 + 1).toNatClampNeg).toInt := by rw [ey_15, ey_14]
    refine lv_aload_n hx hb dL_law_1002 rfl (lv_at hl 0 rfl) ?_
    refine lv_iload_n hx hb dL_law_1003 rfl (lv_at hl 3 rfl) ?_
    refine lv_iconst (v := 2) hx hb dL_law_1004 (by decide) ?_
    refine lv_iadd hx hb dL_law_1005 ?_
    refine lv_topi (fun y_17 ey_17 => ?_)
    have ty_17 : y_17.toInt = i0.toInt + 2 := xI_add rfl rfl ey_17 (by omega) (by omega)
    refine va_sld hx hb hX hbl hbA hS (vin (by omega) (by omega)) dL_law_1006 ?_
    refine lv_topi (fun y_18 ey_18 => ?_)
    have u_19 : y_18.toInt = (xs (i0 + 2).toNatClampNeg).toInt := by rw [ey_18, ey_17]
    refine lv_aload_n hx hb dL_law_1007 rfl (lv_at hl 0 rfl) ?_
    refine lv_iload_n hx hb dL_law_1008 rfl (lv_at hl 3 rfl) ?_
    refine lv_iconst (v := 3) hx hb dL_law_1009 (by decide) ?_
    refine lv_iadd hx hb dL_law_1010 ?_
    refine lv_topi (fun y_20 ey_20 => ?_)
    have ty_20 : y_20.toInt = i0.toInt + 3 := xI_add rfl rfl ey_20 (by omega) (by omega)
    refine va_sld hx hb hX hbl hbA hS (vin (by omega) (by omega)) dL_law_1011 ?_
    refine lv_topi (fun y_21 ey_21 => ?_)
    have u_22 : y_21.toInt = (xs (i0 + 3).toNatClampNeg).toInt := by rw [ey_21, ey_20]
    have g_23 : gP G_11 = gP G := gP_fr (rs := [37, 38, 39, 40, 42, 43, 44, 45, 48, 49, 50, 51]) (fs := [(6, 3), (7, 1), (7, 2), (7, 3), (7, 4), (7, 5), (7, 6), (7, 7), (9, 2), (9, 3), (19, 2), (19, 3)]) (Fr.rf.call hq_12 (by decide) (by decide)) (by decide) (by decide)
    refine S_calli (va_runV (As := [.int y_15, .int y_18, .int y_21]) (rest := []) ⟨hx, hb, hml, hown, hts⟩ (n_keeps l D k A a z G_11 y_15 y_18 y_21 (by omega)) (cwV 3 hts (gd_V hgd m1927 m1928 m1929 m131 m1930) rfl rfl rfl (by decide +kernel) ⟨Nat.le_of_ble_eq_true rfl, Nat.le_of_ble_eq_true rfl⟩) (pre_V hW hB_G_11 hK hZ hS kd_66 rfl) rfl rfl hl.1 rfl (lv_room (Nat.le_of_ble_eq_true rfl)) dL_law_1012 ⟨Nat.le_of_ble_eq_true rfl, Nat.le_of_ble_eq_true rfl⟩) hS (fun r_24 G_25 H locs hpo hW hS => ?_)
    obtain ⟨hB_G_25, hq_26⟩ := hpo
    refine lv_pop hx hb dL_law_1015 rfl ?_
    refine lv_goto (tgt := 1642) hx hb dL_law_1016 (by decide) ?_
    have g_28 : gO G_25 = gO G := gO_fr (rs := [37, 38, 39, 40, 42, 43, 44, 45, 48, 49, 50, 51, 76, 97, 98, 104, 105]) (fs := [(6, 3), (7, 1), (7, 2), (7, 3), (7, 4), (7, 5), (7, 6), (7, 7), (9, 2), (9, 3), (19, 2), (19, 3), (66, 59), (66, 60), (66, 61), (66, 62), (66, 63)]) ((Fr.rf.call hq_12 (by decide) (by decide)).call hq_26 (by decide) (by decide)) (by decide) (by decide)
    have g_29 : gP G_25 = gP G := gP_fr (rs := [37, 38, 39, 40, 42, 43, 44, 45, 48, 49, 50, 51, 76, 97, 98, 104, 105]) (fs := [(6, 3), (7, 1), (7, 2), (7, 3), (7, 4), (7, 5), (7, 6), (7, 7), (9, 2), (9, 3), (19, 2), (19, 3), (66, 59), (66, 60), (66, 61), (66, 62), (66, 63)]) ((Fr.rf.call hq_12 (by decide) (by decide)).call hq_26 (by decide) (by decide)) (by decide) (by decide)
    have g_30 : gS G_25 = gS G := gS_fr (rs := [37, 38, 39, 40, 42, 43, 44, 45, 48, 49, 50, 51, 76, 97, 98, 104, 105]) (fs := [(6, 3), (7, 1), (7, 2), (7, 3), (7, 4), (7, 5), (7, 6), (7, 7), (9, 2), (9, 3), (19, 2), (19, 3), (66, 59), (66, 60), (66, 61), (66, 62), (66, 63)]) ((Fr.rf.call hq_12 (by decide) (by decide)).call hq_26 (by decide) (by decide)) (by decide) (by decide)
    have g_31 : gW G_25 = gW G := gW_fr (rs := [37, 38, 39, 40, 42, 43, 44, 45, 48, 49, 50, 51, 76, 97, 98, 104, 105]) (fs := [(6, 3), (7, 1), (7, 2), (7, 3), (7, 4), (7, 5), (7, 6), (7, 7), (9, 2), (9, 3), (19, 2), (19, 3), (66, 59), (66, 60), (66, 61), (66, 62), (66, 63)]) ((Fr.rf.call hq_12 (by decide) (by decide)).call hq_26 (by decide) (by decide)) (by decide) (by decide)
    have b_32 : 0 ≤ (G.1 0 11).toInt ∧ (G.1 0 11).toInt ≤ 1600 := hB_G.i 0 11 rfl rfl
    have g_33 : (G_25.1 0 11).toInt = (G.1 0 11).toInt := by rw [show G_25.1 0 11 = (G.1 0 11) from ((hq_26.i 0 11 (by decide) (by decide)).trans (hq_12.i 0 11 (by decide) (by decide)))]
    have b_34 : 0 ≤ (G.1 30 4).toInt ∧ (G.1 30 4).toInt ≤ 40 := hB_G.i 30 4 rfl rfl
    have g_35 : (G_25.1 30 4).toInt = (G.1 30 4).toInt := by rw [show G_25.1 30 4 = (G.1 30 4) from ((hq_26.i 30 4 (by decide) (by decide)).trans (hq_12.i 30 4 (by decide) (by decide)))]
    have b_36 : 0 ≤ (G.1 30 5).toInt ∧ (G.1 30 5).toInt ≤ 40 := hB_G.i 30 5 rfl rfl
    have g_37 : (G_25.1 30 5).toInt = (G.1 30 5).toInt := by rw [show G_25.1 30 5 = (G.1 30 5) from ((hq_26.i 30 5 (by decide) (by decide)).trans (hq_12.i 30 5 (by decide) (by decide)))]
    have b_38 : 0 ≤ (G.1 31 6).toInt ∧ (G.1 31 6).toInt ≤ 100000 := hB_G.i 31 6 rfl rfl
    have g_39 : (G_25.1 31 6).toInt = (G.1 31 6).toInt := by rw [show G_25.1 31 6 = (G.1 31 6) from ((hq_26.i 31 6 (by decide) (by decide)).trans (hq_12.i 31 6 (by decide) (by decide)))]
    have b_40 : 0 ≤ (G.1 66 1).toInt ∧ (G.1 66 1).toInt ≤ 1600 := hB_G.i 66 1 rfl rfl
    have g_41 : (G_25.1 66 1).toInt = (G.1 66 1).toInt := by rw [show G_25.1 66 1 = (G.1 66 1) from ((hq_26.i 66 1 (by decide) (by decide)).trans (hq_12.i 66 1 (by decide) (by decide)))]
    have b_42 : 0 ≤ (G.1 66 78).toInt ∧ (G.1 66 78).toInt ≤ 40 := hB_G.i 66 78 rfl rfl
    have g_43 : (G_25.1 66 78).toInt = (G.1 66 78).toInt := by rw [show G_25.1 66 78 = (G.1 66 78) from ((hq_26.i 66 78 (by decide) (by decide)).trans (hq_12.i 66 78 (by decide) (by decide)))]
    have b_44 : 0 ≤ (G.1 66 79).toInt ∧ (G.1 66 79).toInt ≤ 40 := hB_G.i 66 79 rfl rfl
    have g_45 : (G_25.1 66 79).toInt = (G.1 66 79).toInt := by rw [show G_25.1 66 79 = (G.1 66 79) from ((hq_26.i 66 79 (by decide) (by decide)).trans (hq_12.i 66 79 (by decide) (by decide)))]
    have b_46 : 0 ≤ (G.1 66 86).toInt ∧ (G.1 66 86).toInt ≤ 100000 := hB_G.i 66 86 rfl rfl
    have g_47 : (G_25.1 66 86).toInt = (G.1 66 86).toInt := by rw [show G_25.1 66 86 = (G.1 66 86) from ((hq_26.i 66 86 (by decide) (by decide)).trans (hq_12.i 66 86 (by decide) (by decide)))]
    have b_48 : 0 ≤ (G.1 96 0).toInt ∧ (G.1 96 0).toInt ≤ 9 := hB_G.i 96 0 rfl rfl
    have g_49 : (G_25.1 96 0).toInt = (G.1 96 0).toInt := by rw [show G_25.1 96 0 = (G.1 96 0) from ((hq_26.i 96 0 (by decide) (by decide)).trans (hq_12.i 96 0 (by decide) (by decide)))]
    have b_50 : 0 ≤ (G.1 96 1).toInt ∧ (G.1 96 1).toInt ≤ 9 := hB_G.i 96 1 rfl rfl
    have g_51 : (G_25.1 96 1).toInt = (G.1 96 1).toInt := by rw [show G_25.1 96 1 = (G.1 96 1) from ((hq_26.i 96 1 (by decide) (by decide)).trans (hq_12.i 96 1 (by decide) (by decide)))]
    have b_52 : 0 ≤ (G.1 96 2).toInt ∧ (G.1 96 2).toInt ≤ 9 := hB_G.i 96 2 rfl rfl
    have g_53 : (G_25.1 96 2).toInt = (G.1 96 2).toInt := by rw [show G_25.1 96 2 = (G.1 96 2) from ((hq_26.i 96 2 (by decide) (by decide)).trans (hq_12.i 96 2 (by decide) (by decide)))]
    exact K G_25 _ _ _ (Or.inl ⟨((((hq_26.r 0 0 (by decide) (by decide)).trans (hq_12.r 0 0 (by decide) (by decide)))).trans (hv_0_0)), ((((hq_26.r 0 1 (by decide) (by decide)).trans (hq_12.r 0 1 (by decide) (by decide)))).trans (hv_0_1)), ((((hq_26.r 6 4 (by decide) (by decide)).trans (hq_12.r 6 4 (by decide) (by decide)))).trans (hv_6_4)), by omega, by omega, by omega, by omega, by omega, by omega, by omega, by omega, by omega⟩) hB_G_25 hW hS (lv_sub hl [0, 1, 2, 3] rfl)
  · skip
    refine lv_aload_n hx hb dL_law_976 rfl (lv_at hl 1 rfl) ?_
    refine lv_aload_n hx hb dL_law_977 rfl (lv_at hl 0 rfl) ?_
    refine lv_iload_n hx hb dL_law_978 rfl (lv_at hl 3 rfl) ?_
    refine lv_iconst (v := 1) hx hb dL_law_979 (by decide) ?_
    refine lv_iadd hx hb dL_law_980 ?_
    refine lv_topi (fun y_1 ey_1 => ?_)
    have ty_1 : y_1.toInt = i0.toInt + 1 := xI_add rfl rfl ey_1 (by omega) (by omega)
    refine va_sld hx hb hX hbl hbA hS (vin (by omega) (by omega)) dL_law_981 ?_
    refine lv_topi (fun y_2 ey_2 => ?_)
    have u_3 : y_2.toInt = (xs (i0 + 1).toNatClampNeg).toInt := by rw [ey_2, ey_1]
    refine lv_aload_n hx hb dL_law_982 rfl (lv_at hl 0 rfl) ?_
    refine lv_iload_n hx hb dL_law_983 rfl (lv_at hl 3 rfl) ?_
    refine lv_iconst (v := 2) hx hb dL_law_984 (by decide) ?_
    refine lv_iadd hx hb dL_law_985 ?_
    refine lv_topi (fun y_4 ey_4 => ?_)
    have ty_4 : y_4.toInt = i0.toInt + 2 := xI_add rfl rfl ey_4 (by omega) (by omega)
    refine va_sld hx hb hX hbl hbA hS (vin (by omega) (by omega)) dL_law_986 ?_
    refine lv_topi (fun y_5 ey_5 => ?_)
    have u_6 : y_5.toInt = (xs (i0 + 2).toNatClampNeg).toInt := by rw [ey_5, ey_4]
    refine lv_aload_n hx hb dL_law_987 rfl (lv_at hl 0 rfl) ?_
    refine lv_iload_n hx hb dL_law_988 rfl (lv_at hl 3 rfl) ?_
    refine lv_iconst (v := 3) hx hb dL_law_989 (by decide) ?_
    refine lv_iadd hx hb dL_law_990 ?_
    refine lv_topi (fun y_7 ey_7 => ?_)
    have ty_7 : y_7.toInt = i0.toInt + 3 := xI_add rfl rfl ey_7 (by omega) (by omega)
    refine va_sld hx hb hX hbl hbA hS (vin (by omega) (by omega)) dL_law_991 ?_
    refine lv_topi (fun y_8 ey_8 => ?_)
    have u_9 : y_8.toInt = (xs (i0 + 3).toNatClampNeg).toInt := by rw [ey_8, ey_7]
    refine S_calli (va_runV (As := [.int y_2, .int y_5, .int y_8]) (rest := []) ⟨hx, hb, hml, hown, hts⟩ (k_Wkeeps_2 l D k A a z G y_2 y_5 y_8 hv_0_0 hv_0_1 hv_6_4) (cwV 3 hts (gd_V hgd m1087 m1088 m1089 m117 m1090) rfl rfl rfl (by decide +kernel) ⟨Nat.le_of_ble_eq_true rfl, Nat.le_of_ble_eq_true rfl⟩) (pre_V hW hB_G hK hZ hS kd_0 rfl) rfl rfl hl.1 rfl (lv_room (Nat.le_of_ble_eq_true rfl)) dL_law_992 ⟨Nat.le_of_ble_eq_true rfl, Nat.le_of_ble_eq_true rfl⟩) hS (fun r_10 G_11 H locs hpo hW hS => ?_)
    obtain ⟨hB_G_11, hq_12⟩ := hpo
    refine lv_pop hx hb dL_law_995 rfl ?_
    refine lv_aload_n hx hb dL_law_996 rfl (lv_at hl 2 rfl) ?_
    refine lv_aload_n hx hb dL_law_997 rfl (lv_at hl 0 rfl) ?_
    refine lv_iload_n hx hb dL_law_998 rfl (lv_at hl 3 rfl) ?_
    refine lv_iconst (v := 1) hx hb dL_law_999 (by decide) ?_
    refine lv_iadd hx hb dL_law_1000 ?_
    refine lv_topi (fun y_14 ey_14 => ?_)
    have ty_14 : y_14.toInt = i0.toInt + 1 := xI_add rfl rfl ey_14 (by omega) (by omega)
    refine va_sld hx hb hX hbl hbA hS (vin (by omega) (by omega)) dL_law_1001 ?_
    refine lv_topi (fun y_15 ey_15 => ?_)
    have u_16 : y_15.toInt = (xs (i0 + 1).toNatClampNeg).toInt := by rw [ey_15, ey_14]
    refine lv_aload_n hx hb dL_law_1002 rfl (lv_at hl 0 rfl) ?_
    refine lv_iload_n hx hb dL_law_1003 rfl (lv_at hl 3 rfl) ?_
    refine lv_iconst (v := 2) hx hb dL_law_1004 (by decide) ?_
    refine lv_iadd hx hb dL_law_1005 ?_
    refine lv_topi (fun y_17 ey_17 => ?_)
    have ty_17 : y_17.toInt = i0.toInt + 2 := xI_add rfl rfl ey_17 (by omega) (by omega)
    refine va_sld hx hb hX hbl hbA hS (vin (by omega) (by omega)) dL_law_1006 ?_
    refine lv_topi (fun y_18 ey_18 => ?_)
    have u_19 : y_18.toInt = (xs (i0 + 2).toNatClampNeg).toInt := by rw [ey_18, ey_17]
    refine lv_aload_n hx hb dL_law_1007 rfl (lv_at hl 0 rfl) ?_
    refine lv_iload_n hx hb dL_law_1008 rfl (lv_at hl 3 rfl) ?_
    refine lv_iconst (v := 3) hx hb dL_law_1009 (by decide) ?_
    refine lv_iadd hx hb dL_law_1010 ?_
    refine lv_topi (fun y_20 ey_20 => ?_)
    have ty_20 : y_20.toInt = i0.toInt + 3 := xI_add rfl rfl ey_20 (by omega) (by omega)
    refine va_sld hx hb hX hbl hbA hS (vin (by omega) (by omega)) dL_law_1011 ?_
    refine lv_topi (fun y_21 ey_21 => ?_)
    have u_22 : y_21.toInt = (xs (i0 + 3).toNatClampNeg).toInt := by rw [ey_21, ey_20]
    have g_23 : gP G_11 = gP G := gP_fr (rs := [37, 38, 39, 40, 42, 43, 44, 45, 48, 49, 50, 51]) (fs := [(6, 3), (7, 1), (7, 2), (7, 3), (7, 4), (7, 5), (7, 6), (7, 7), (9, 2), (9, 3), (19, 2), (19, 3)]) (Fr.rf.call hq_12 (by decide) (by decide)) (by decide) (by decide)
    refine S_calli (va_runV (As := [.int y_15, .int y_18, .int y_21]) (rest := []) ⟨hx, hb, hml, hown, hts⟩ (n_keeps l D k A a z G_11 y_15 y_18 y_21 (by omega)) (cwV 3 hts (gd_V hgd m1927 m1928 m1929 m131 m1930) rfl rfl rfl (by decide +kernel) ⟨Nat.le_of_ble_eq_true rfl, Nat.le_of_ble_eq_true rfl⟩) (pre_V hW hB_G_11 hK hZ hS kd_66 rfl) rfl rfl hl.1 rfl (lv_room (Nat.le_of_ble_eq_true rfl)) dL_law_1012 ⟨Nat.le_of_ble_eq_true rfl, Nat.le_of_ble_eq_true rfl⟩) hS (fun r_24 G_25 H locs hpo hW hS => ?_)
    obtain ⟨hB_G_25, hq_26⟩ := hpo
    refine lv_pop hx hb dL_law_1015 rfl ?_
    refine lv_goto (tgt := 1642) hx hb dL_law_1016 (by decide) ?_
    have g_28 : gO G_25 = gO G := gO_fr (rs := [37, 38, 39, 40, 42, 43, 44, 45, 48, 49, 50, 51, 76, 97, 98, 104, 105]) (fs := [(6, 3), (7, 1), (7, 2), (7, 3), (7, 4), (7, 5), (7, 6), (7, 7), (9, 2), (9, 3), (19, 2), (19, 3), (66, 59), (66, 60), (66, 61), (66, 62), (66, 63)]) ((Fr.rf.call hq_12 (by decide) (by decide)).call hq_26 (by decide) (by decide)) (by decide) (by decide)
    have g_29 : gP G_25 = gP G := gP_fr (rs := [37, 38, 39, 40, 42, 43, 44, 45, 48, 49, 50, 51, 76, 97, 98, 104, 105]) (fs := [(6, 3), (7, 1), (7, 2), (7, 3), (7, 4), (7, 5), (7, 6), (7, 7), (9, 2), (9, 3), (19, 2), (19, 3), (66, 59), (66, 60), (66, 61), (66, 62), (66, 63)]) ((Fr.rf.call hq_12 (by decide) (by decide)).call hq_26 (by decide) (by decide)) (by decide) (by decide)
    have g_30 : gS G_25 = gS G := gS_fr (rs := [37, 38, 39, 40, 42, 43, 44, 45, 48, 49, 50, 51, 76, 97, 98, 104, 105]) (fs := [(6, 3), (7, 1), (7, 2), (7, 3), (7, 4), (7, 5), (7, 6), (7, 7), (9, 2), (9, 3), (19, 2), (19, 3), (66, 59), (66, 60), (66, 61), (66, 62), (66, 63)]) ((Fr.rf.call hq_12 (by decide) (by decide)).call hq_26 (by decide) (by decide)) (by decide) (by decide)
    have g_31 : gW G_25 = gW G := gW_fr (rs := [37, 38, 39, 40, 42, 43, 44, 45, 48, 49, 50, 51, 76, 97, 98, 104, 105]) (fs := [(6, 3), (7, 1), (7, 2), (7, 3), (7, 4), (7, 5), (7, 6), (7, 7), (9, 2), (9, 3), (19, 2), (19, 3), (66, 59), (66, 60), (66, 61), (66, 62), (66, 63)]) ((Fr.rf.call hq_12 (by decide) (by decide)).call hq_26 (by decide) (by decide)) (by decide) (by decide)
    have b_32 : 0 ≤ (G.1 0 11).toInt ∧ (G.1 0 11).toInt ≤ 1600 := hB_G.i 0 11 rfl rfl
    have g_33 : (G_25.1 0 11).toInt = (G.1 0 11).toInt := by rw [show G_25.1 0 11 = (G.1 0 11) from ((hq_26.i 0 11 (by decide) (by decide)).trans (hq_12.i 0 11 (by decide) (by decide)))]
    have b_34 : 0 ≤ (G.1 30 4).toInt ∧ (G.1 30 4).toInt ≤ 40 := hB_G.i 30 4 rfl rfl
    have g_35 : (G_25.1 30 4).toInt = (G.1 30 4).toInt := by rw [show G_25.1 30 4 = (G.1 30 4) from ((hq_26.i 30 4 (by decide) (by decide)).trans (hq_12.i 30 4 (by decide) (by decide)))]
    have b_36 : 0 ≤ (G.1 30 5).toInt ∧ (G.1 30 5).toInt ≤ 40 := hB_G.i 30 5 rfl rfl
    have g_37 : (G_25.1 30 5).toInt = (G.1 30 5).toInt := by rw [show G_25.1 30 5 = (G.1 30 5) from ((hq_26.i 30 5 (by decide) (by decide)).trans (hq_12.i 30 5 (by decide) (by decide)))]
    have b_38 : 0 ≤ (G.1 31 6).toInt ∧ (G.1 31 6).toInt ≤ 100000 := hB_G.i 31 6 rfl rfl
    have g_39 : (G_25.1 31 6).toInt = (G.1 31 6).toInt := by rw [show G_25.1 31 6 = (G.1 31 6) from ((hq_26.i 31 6 (by decide) (by decide)).trans (hq_12.i 31 6 (by decide) (by decide)))]
    have b_40 : 0 ≤ (G.1 66 1).toInt ∧ (G.1 66 1).toInt ≤ 1600 := hB_G.i 66 1 rfl rfl
    have g_41 : (G_25.1 66 1).toInt = (G.1 66 1).toInt := by rw [show G_25.1 66 1 = (G.1 66 1) from ((hq_26.i 66 1 (by decide) (by decide)).trans (hq_12.i 66 1 (by decide) (by decide)))]
    have b_42 : 0 ≤ (G.1 66 78).toInt ∧ (G.1 66 78).toInt ≤ 40 := hB_G.i 66 78 rfl rfl
    have g_43 : (G_25.1 66 78).toInt = (G.1 66 78).toInt := by rw [show G_25.1 66 78 = (G.1 66 78) from ((hq_26.i 66 78 (by decide) (by decide)).trans (hq_12.i 66 78 (by decide) (by decide)))]
    have b_44 : 0 ≤ (G.1 66 79).toInt ∧ (G.1 66 79).toInt ≤ 40 := hB_G.i 66 79 rfl rfl
    have g_45 : (G_25.1 66 79).toInt = (G.1 66 79).toInt := by rw [show G_25.1 66 79 = (G.1 66 79) from ((hq_26.i 66 79 (by decide) (by decide)).trans (hq_12.i 66 79 (by decide) (by decide)))]
    have b_46 : 0 ≤ (G.1 66 86).toInt ∧ (G.1 66 86).toInt ≤ 100000 := hB_G.i 66 86 rfl rfl
    have g_47 : (G_25.1 66 86).toInt = (G.1 66 86).toInt := by rw [show G_25.1 66 86 = (G.1 66 86) from ((hq_26.i 66 86 (by decide) (by decide)).trans (hq_12.i 66 86 (by decide) (by decide)))]
    have b_48 : 0 ≤ (G.1 96 0).toInt ∧ (G.1 96 0).toInt ≤ 9 := hB_G.i 96 0 rfl rfl
    have g_49 : (G_25.1 96 0).toInt = (G.1 96 0).toInt := by rw [show G_25.1 96 0 = (G.1 96 0) from ((hq_26.i 96 0 (by decide) (by decide)).trans (hq_12.i 96 0 (by decide) (by decide)))]
    have b_50 : 0 ≤ (G.1 96 1).toInt ∧ (G.1 96 1).toInt ≤ 9 := hB_G.i 96 1 rfl rfl
    have g_51 : (G_25.1 96 1).toInt = (G.1 96 1).toInt := by rw [show G_25.1 96 1 = (G.1 96 1) from ((hq_26.i 96 1 (by decide) (by decide)).trans (hq_12.i 96 1 (by decide) (by decide)))]
    have b_52 : 0 ≤ (G.1 96 2).toInt ∧ (G.1 96 2).toInt ≤ 9 := hB_G.i 96 2 rfl rfl
    have g_53 : (G_25.1 96 2).toInt = (G.1 96 2).toInt := by rw [show G_25.1 96 2 = (G.1 96 2) from ((hq_26.i 96 2 (by decide) (by decide)).trans (hq_12.i 96 2 (by decide) (by decide)))]
    exact K G_25 _ _ _ (Or.inr ⟨((((hq_26.r 0 0 (by decide) (by decide)).trans (hq_12.r 0 0 (by decide) (by decide)))).trans (hv_0_0)), ((((hq_26.r 0 1 (by decide) (by decide)).trans (hq_12.r 0 1 (by decide) (by decide)))).trans (hv_0_1)), ((((hq_26.r 6 4 (by decide) (by decide)).trans (hq_12.r 6 4 (by decide) (by decide)))).trans (hv_6_4)), by omega, by omega, by omega, by omega, by omega, by omega, by omega, by omega, by omega⟩) hB_G_25 hW hS (lv_sub hl [0, 1, 2, 3] rfl)
