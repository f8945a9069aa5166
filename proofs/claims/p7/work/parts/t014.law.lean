theorem m1065 : Cond.methodLink RL 75 yX11_first ∈ gd := gd_mem 1065 (by decide +kernel) (by decide +kernel)
theorem m1066 : Cond.instanceMethod yX11_first ∈ gd := gd_mem 1066 (by decide +kernel) (by decide +kernel)
theorem m1067 : Cond.selects RX11 yX11_first yX11_first ∈ gd := gd_mem 1067 (by decide +kernel) (by decide +kernel)
theorem m1068 : Cond.code yX11_first cX11_first 9 (some .int) ∈ gd := gd_mem 1068 (by decide +kernel) (by decide +kernel)
theorem m1072 : Cond.methodLink RL 79 yX11_begin ∈ gd := gd_mem 1072 (by decide +kernel) (by decide +kernel)
theorem m1073 : Cond.instanceMethod yX11_begin ∈ gd := gd_mem 1073 (by decide +kernel) (by decide +kernel)
theorem m1074 : Cond.selects RX11 yX11_begin yX11_begin ∈ gd := gd_mem 1074 (by decide +kernel) (by decide +kernel)
theorem m1075 : Cond.code yX11_begin cX11_begin 5 (some .int) ∈ gd := gd_mem 1075 (by decide +kernel) (by decide +kernel)
theorem m1083 : Cond.methodLink RL 83 yX11_suits ∈ gd := gd_mem 1083 (by decide +kernel) (by decide +kernel)
theorem m1084 : Cond.instanceMethod yX11_suits ∈ gd := gd_mem 1084 (by decide +kernel) (by decide +kernel)
theorem m1085 : Cond.selects RX11 yX11_suits yX11_suits ∈ gd := gd_mem 1085 (by decide +kernel) (by decide +kernel)
theorem m1086 : Cond.code yX11_suits cX11_suits 9 (some .long) ∈ gd := gd_mem 1086 (by decide +kernel) (by decide +kernel)
theorem m1903 : Cond.methodLink RL 78 yX12_first ∈ gd := gd_mem 1903 (by decide +kernel) (by decide +kernel)
theorem m1904 : Cond.instanceMethod yX12_first ∈ gd := gd_mem 1904 (by decide +kernel) (by decide +kernel)
theorem m1905 : Cond.selects RX12 yX12_first yX12_first ∈ gd := gd_mem 1905 (by decide +kernel) (by decide +kernel)
theorem m1906 : Cond.code yX12_first cX12_first 6 (some .int) ∈ gd := gd_mem 1906 (by decide +kernel) (by decide +kernel)
theorem m1916 : Cond.methodLink RL 82 yX12_begin ∈ gd := gd_mem 1916 (by decide +kernel) (by decide +kernel)
theorem m1917 : Cond.instanceMethod yX12_begin ∈ gd := gd_mem 1917 (by decide +kernel) (by decide +kernel)
theorem m1918 : Cond.selects RX12 yX12_begin yX12_begin ∈ gd := gd_mem 1918 (by decide +kernel) (by decide +kernel)
theorem m1919 : Cond.code yX12_begin cX12_begin 5 (some .int) ∈ gd := gd_mem 1919 (by decide +kernel) (by decide +kernel)
theorem m1923 : Cond.methodLink RL 87 yX12_suits ∈ gd := gd_mem 1923 (by decide +kernel) (by decide +kernel)
theorem m1924 : Cond.instanceMethod yX12_suits ∈ gd := gd_mem 1924 (by decide +kernel) (by decide +kernel)
theorem m1925 : Cond.selects RX12 yX12_suits yX12_suits ∈ gd := gd_mem 1925 (by decide +kernel) (by decide +kernel)
theorem m1926 : Cond.code yX12_suits cX12_suits 9 (some .long) ∈ gd := gd_mem 1926 (by decide +kernel) (by decide +kernel)
theorem dL_law_796 : decode cL_law 796 = .ok (.aload_n 1, 1) := by decide +kernel
theorem dL_law_797 : decode cL_law 797 = .ok (.aload_n 0, 1) := by decide +kernel
theorem dL_law_798 : decode cL_law 798 = .ok (.iload_n 3, 1) := by decide +kernel
theorem dL_law_799 : decode cL_law 799 = .ok (.iconst 1, 1) := by decide +kernel
theorem dL_law_800 : decode cL_law 800 = .ok (.iadd, 1) := by decide +kernel
theorem dL_law_801 : decode cL_law 801 = .ok (.iaload, 1) := by decide +kernel
theorem dL_law_802 : decode cL_law 802 = .ok (.aload_n 0, 1) := by decide +kernel
theorem dL_law_803 : decode cL_law 803 = .ok (.iload_n 3, 1) := by decide +kernel
theorem dL_law_804 : decode cL_law 804 = .ok (.iconst 2, 1) := by decide +kernel
theorem dL_law_805 : decode cL_law 805 = .ok (.iadd, 1) := by decide +kernel
theorem dL_law_806 : decode cL_law 806 = .ok (.iaload, 1) := by decide +kernel
theorem dL_law_807 : decode cL_law 807 = .ok (.aload_n 0, 1) := by decide +kernel
theorem dL_law_808 : decode cL_law 808 = .ok (.iload_n 3, 1) := by decide +kernel
theorem dL_law_809 : decode cL_law 809 = .ok (.iconst 3, 1) := by decide +kernel
theorem dL_law_810 : decode cL_law 810 = .ok (.iadd, 1) := by decide +kernel
theorem dL_law_811 : decode cL_law 811 = .ok (.iaload, 1) := by decide +kernel
theorem dL_law_812 : decode cL_law 812 = .ok (.aload_n 0, 1) := by decide +kernel
theorem dL_law_813 : decode cL_law 813 = .ok (.iload_n 3, 1) := by decide +kernel
theorem dL_law_814 : decode cL_law 814 = .ok (.iconst 4, 1) := by decide +kernel
theorem dL_law_815 : decode cL_law 815 = .ok (.iadd, 1) := by decide +kernel
theorem dL_law_816 : decode cL_law 816 = .ok (.iaload, 1) := by decide +kernel
theorem dL_law_817 : decode cL_law 817 = .ok (.aload_n 0, 1) := by decide +kernel
theorem dL_law_818 : decode cL_law 818 = .ok (.iload_n 3, 1) := by decide +kernel
theorem dL_law_819 : decode cL_law 819 = .ok (.iconst 5, 1) := by decide +kernel
theorem dL_law_820 : decode cL_law 820 = .ok (.iadd, 1) := by decide +kernel
theorem dL_law_821 : decode cL_law 821 = .ok (.iaload, 1) := by decide +kernel
theorem dL_law_822 : decode cL_law 822 = .ok (.invokevirtual 75, 3) := by decide +kernel
theorem dL_law_825 : decode cL_law 825 = .ok (.pop, 1) := by decide +kernel
theorem dL_law_826 : decode cL_law 826 = .ok (.aload_n 2, 1) := by decide +kernel
theorem dL_law_827 : decode cL_law 827 = .ok (.aload_n 0, 1) := by decide +kernel
theorem dL_law_828 : decode cL_law 828 = .ok (.iload_n 3, 1) := by decide +kernel
theorem dL_law_829 : decode cL_law 829 = .ok (.iconst 1, 1) := by decide +kernel
theorem dL_law_830 : decode cL_law 830 = .ok (.iadd, 1) := by decide +kernel
theorem dL_law_831 : decode cL_law 831 = .ok (.iaload, 1) := by decide +kernel
theorem dL_law_832 : decode cL_law 832 = .ok (.aload_n 0, 1) := by decide +kernel
theorem dL_law_833 : decode cL_law 833 = .ok (.iload_n 3, 1) := by decide +kernel
theorem dL_law_834 : decode cL_law 834 = .ok (.iconst 2, 1) := by decide +kernel
theorem dL_law_835 : decode cL_law 835 = .ok (.iadd, 1) := by decide +kernel
theorem dL_law_836 : decode cL_law 836 = .ok (.iaload, 1) := by decide +kernel
theorem dL_law_837 : decode cL_law 837 = .ok (.aload_n 0, 1) := by decide +kernel
theorem dL_law_838 : decode cL_law 838 = .ok (.iload_n 3, 1) := by decide +kernel
theorem dL_law_839 : decode cL_law 839 = .ok (.iconst 3, 1) := by decide +kernel
theorem dL_law_840 : decode cL_law 840 = .ok (.iadd, 1) := by decide +kernel
theorem dL_law_841 : decode cL_law 841 = .ok (.iaload, 1) := by decide +kernel
theorem dL_law_842 : decode cL_law 842 = .ok (.aload_n 0, 1) := by decide +kernel
theorem dL_law_843 : decode cL_law 843 = .ok (.iload_n 3, 1) := by decide +kernel
theorem dL_law_844 : decode cL_law 844 = .ok (.iconst 4, 1) := by decide +kernel
theorem dL_law_845 : decode cL_law 845 = .ok (.iadd, 1) := by decide +kernel
theorem dL_law_846 : decode cL_law 846 = .ok (.iaload, 1) := by decide +kernel
theorem dL_law_847 : decode cL_law 847 = .ok (.aload_n 0, 1) := by decide +kernel
theorem dL_law_848 : decode cL_law 848 = .ok (.iload_n 3, 1) := by decide +kernel
theorem dL_law_849 : decode cL_law 849 = .ok (.iconst 5, 1) := by decide +kernel
theorem dL_law_850 : decode cL_law 850 = .ok (.iadd, 1) := by decide +kernel
theorem dL_law_851 : decode cL_law 851 = .ok (.iaload, 1) := by decide +kernel
theorem dL_law_852 : decode cL_law 852 = .ok (.invokevirtual 78, 3) := by decide +kernel
theorem dL_law_855 : decode cL_law 855 = .ok (.pop, 1) := by decide +kernel
theorem dL_law_856 : decode cL_law 856 = .ok (.goto 785, 3) := by decide +kernel
theorem dL_law_859 : decode cL_law 859 = .ok (.aload_n 1, 1) := by decide +kernel
theorem dL_law_860 : decode cL_law 860 = .ok (.aload_n 0, 1) := by decide +kernel
theorem dL_law_861 : decode cL_law 861 = .ok (.iload_n 3, 1) := by decide +kernel
theorem dL_law_862 : decode cL_law 862 = .ok (.iconst 1, 1) := by decide +kernel
theorem dL_law_863 : decode cL_law 863 = .ok (.iadd, 1) := by decide +kernel
theorem dL_law_864 : decode cL_law 864 = .ok (.iaload, 1) := by decide +kernel
theorem dL_law_865 : decode cL_law 865 = .ok (.aload_n 0, 1) := by decide +kernel
theorem dL_law_866 : decode cL_law 866 = .ok (.iload_n 3, 1) := by decide +kernel
theorem dL_law_867 : decode cL_law 867 = .ok (.iconst 2, 1) := by decide +kernel
theorem dL_law_868 : decode cL_law 868 = .ok (.iadd, 1) := by decide +kernel
theorem dL_law_869 : decode cL_law 869 = .ok (.iaload, 1) := by decide +kernel
theorem dL_law_870 : decode cL_law 870 = .ok (.aload_n 0, 1) := by decide +kernel
theorem dL_law_871 : decode cL_law 871 = .ok (.iload_n 3, 1) := by decide +kernel
theorem dL_law_872 : decode cL_law 872 = .ok (.iconst 3, 1) := by decide +kernel
theorem dL_law_873 : decode cL_law 873 = .ok (.iadd, 1) := by decide +kernel
theorem dL_law_874 : decode cL_law 874 = .ok (.iaload, 1) := by decide +kernel
theorem dL_law_875 : decode cL_law 875 = .ok (.aload_n 0, 1) := by decide +kernel
theorem dL_law_876 : decode cL_law 876 = .ok (.iload_n 3, 1) := by decide +kernel
theorem dL_law_877 : decode cL_law 877 = .ok (.iconst 4, 1) := by decide +kernel
theorem dL_law_878 : decode cL_law 878 = .ok (.iadd, 1) := by decide +kernel
theorem dL_law_879 : decode cL_law 879 = .ok (.iaload, 1) := by decide +kernel
theorem dL_law_880 : decode cL_law 880 = .ok (.invokevirtual 79, 3) := by decide +kernel
theorem dL_law_883 : decode cL_law 883 = .ok (.pop, 1) := by decide +kernel
theorem dL_law_884 : decode cL_law 884 = .ok (.aload_n 2, 1) := by decide +kernel
theorem dL_law_885 : decode cL_law 885 = .ok (.aload_n 0, 1) := by decide +kernel
theorem dL_law_886 : decode cL_law 886 = .ok (.iload_n 3, 1) := by decide +kernel
theorem dL_law_887 : decode cL_law 887 = .ok (.iconst 1, 1) := by decide +kernel
theorem dL_law_888 : decode cL_law 888 = .ok (.iadd, 1) := by decide +kernel
theorem dL_law_889 : decode cL_law 889 = .ok (.iaload, 1) := by decide +kernel
theorem dL_law_890 : decode cL_law 890 = .ok (.aload_n 0, 1) := by decide +kernel
theorem dL_law_891 : decode cL_law 891 = .ok (.iload_n 3, 1) := by decide +kernel
theorem dL_law_892 : decode cL_law 892 = .ok (.iconst 2, 1) := by decide +kernel
theorem dL_law_893 : decode cL_law 893 = .ok (.iadd, 1) := by decide +kernel
theorem dL_law_894 : decode cL_law 894 = .ok (.iaload, 1) := by decide +kernel
theorem dL_law_895 : decode cL_law 895 = .ok (.aload_n 0, 1) := by decide +kernel
theorem dL_law_896 : decode cL_law 896 = .ok (.iload_n 3, 1) := by decide +kernel
theorem dL_law_897 : decode cL_law 897 = .ok (.iconst 3, 1) := by decide +kernel
theorem dL_law_898 : decode cL_law 898 = .ok (.iadd, 1) := by decide +kernel
theorem dL_law_899 : decode cL_law 899 = .ok (.iaload, 1) := by decide +kernel
theorem dL_law_900 : decode cL_law 900 = .ok (.aload_n 0, 1) := by decide +kernel
theorem dL_law_901 : decode cL_law 901 = .ok (.iload_n 3, 1) := by decide +kernel
theorem dL_law_902 : decode cL_law 902 = .ok (.iconst 4, 1) := by decide +kernel
theorem dL_law_903 : decode cL_law 903 = .ok (.iadd, 1) := by decide +kernel
theorem dL_law_904 : decode cL_law 904 = .ok (.iaload, 1) := by decide +kernel
theorem dL_law_905 : decode cL_law 905 = .ok (.invokevirtual 82, 3) := by decide +kernel
theorem dL_law_908 : decode cL_law 908 = .ok (.pop, 1) := by decide +kernel
theorem dL_law_909 : decode cL_law 909 = .ok (.goto 732, 3) := by decide +kernel
theorem dL_law_912 : decode cL_law 912 = .ok (.aload_n 1, 1) := by decide +kernel
theorem dL_law_913 : decode cL_law 913 = .ok (.aload_n 0, 1) := by decide +kernel
theorem dL_law_914 : decode cL_law 914 = .ok (.iload_n 3, 1) := by decide +kernel
theorem dL_law_915 : decode cL_law 915 = .ok (.iconst 1, 1) := by decide +kernel
theorem dL_law_916 : decode cL_law 916 = .ok (.iadd, 1) := by decide +kernel
theorem dL_law_917 : decode cL_law 917 = .ok (.iaload, 1) := by decide +kernel
theorem dL_law_918 : decode cL_law 918 = .ok (.aload_n 0, 1) := by decide +kernel
theorem dL_law_919 : decode cL_law 919 = .ok (.iload_n 3, 1) := by decide +kernel
theorem dL_law_920 : decode cL_law 920 = .ok (.iconst 2, 1) := by decide +kernel
theorem dL_law_921 : decode cL_law 921 = .ok (.iadd, 1) := by decide +kernel
theorem dL_law_922 : decode cL_law 922 = .ok (.iaload, 1) := by decide +kernel
theorem dL_law_923 : decode cL_law 923 = .ok (.aload_n 0, 1) := by decide +kernel
theorem dL_law_924 : decode cL_law 924 = .ok (.iload_n 3, 1) := by decide +kernel
theorem dL_law_925 : decode cL_law 925 = .ok (.iconst 3, 1) := by decide +kernel
theorem dL_law_926 : decode cL_law 926 = .ok (.iadd, 1) := by decide +kernel
theorem dL_law_927 : decode cL_law 927 = .ok (.iaload, 1) := by decide +kernel
theorem dL_law_928 : decode cL_law 928 = .ok (.aload_n 0, 1) := by decide +kernel
theorem dL_law_929 : decode cL_law 929 = .ok (.iload_n 3, 1) := by decide +kernel
theorem dL_law_930 : decode cL_law 930 = .ok (.iconst 4, 1) := by decide +kernel
theorem dL_law_931 : decode cL_law 931 = .ok (.iadd, 1) := by decide +kernel
theorem dL_law_932 : decode cL_law 932 = .ok (.iaload, 1) := by decide +kernel
theorem dL_law_933 : decode cL_law 933 = .ok (.aload_n 0, 1) := by decide +kernel
theorem dL_law_934 : decode cL_law 934 = .ok (.iload_n 3, 1) := by decide +kernel
theorem dL_law_935 : decode cL_law 935 = .ok (.iconst 5, 1) := by decide +kernel
theorem dL_law_936 : decode cL_law 936 = .ok (.iadd, 1) := by decide +kernel
theorem dL_law_937 : decode cL_law 937 = .ok (.iaload, 1) := by decide +kernel
theorem dL_law_938 : decode cL_law 938 = .ok (.invokevirtual 83, 3) := by decide +kernel
theorem dL_law_941 : decode cL_law 941 = .ok (.pop2, 1) := by decide +kernel
theorem dL_law_942 : decode cL_law 942 = .ok (.aload_n 2, 1) := by decide +kernel
theorem dL_law_943 : decode cL_law 943 = .ok (.aload_n 0, 1) := by decide +kernel
theorem dL_law_944 : decode cL_law 944 = .ok (.iload_n 3, 1) := by decide +kernel
theorem dL_law_945 : decode cL_law 945 = .ok (.iconst 1, 1) := by decide +kernel
theorem dL_law_946 : decode cL_law 946 = .ok (.iadd, 1) := by decide +kernel
theorem dL_law_947 : decode cL_law 947 = .ok (.iaload, 1) := by decide +kernel
theorem dL_law_948 : decode cL_law 948 = .ok (.aload_n 0, 1) := by decide +kernel
theorem dL_law_949 : decode cL_law 949 = .ok (.iload_n 3, 1) := by decide +kernel
theorem dL_law_950 : decode cL_law 950 = .ok (.iconst 2, 1) := by decide +kernel
theorem dL_law_951 : decode cL_law 951 = .ok (.iadd, 1) := by decide +kernel
theorem dL_law_952 : decode cL_law 952 = .ok (.iaload, 1) := by decide +kernel
theorem dL_law_953 : decode cL_law 953 = .ok (.aload_n 0, 1) := by decide +kernel
theorem dL_law_954 : decode cL_law 954 = .ok (.iload_n 3, 1) := by decide +kernel
theorem dL_law_955 : decode cL_law 955 = .ok (.iconst 3, 1) := by decide +kernel
theorem dL_law_956 : decode cL_law 956 = .ok (.iadd, 1) := by decide +kernel
theorem dL_law_957 : decode cL_law 957 = .ok (.iaload, 1) := by decide +kernel
theorem dL_law_958 : decode cL_law 958 = .ok (.aload_n 0, 1) := by decide +kernel
theorem dL_law_959 : decode cL_law 959 = .ok (.iload_n 3, 1) := by decide +kernel
theorem dL_law_960 : decode cL_law 960 = .ok (.iconst 4, 1) := by decide +kernel
theorem dL_law_961 : decode cL_law 961 = .ok (.iadd, 1) := by decide +kernel
theorem dL_law_962 : decode cL_law 962 = .ok (.iaload, 1) := by decide +kernel
theorem dL_law_963 : decode cL_law 963 = .ok (.aload_n 0, 1) := by decide +kernel
theorem dL_law_964 : decode cL_law 964 = .ok (.iload_n 3, 1) := by decide +kernel
theorem dL_law_965 : decode cL_law 965 = .ok (.iconst 5, 1) := by decide +kernel
theorem dL_law_966 : decode cL_law 966 = .ok (.iadd, 1) := by decide +kernel
theorem dL_law_967 : decode cL_law 967 = .ok (.iaload, 1) := by decide +kernel
theorem dL_law_968 : decode cL_law 968 = .ok (.invokevirtual 87, 3) := by decide +kernel
theorem dL_law_971 : decode cL_law 971 = .ok (.pop2, 1) := by decide +kernel
theorem dL_law_972 : decode cL_law 972 = .ok (.goto 669, 3) := by decide +kernel
set_option maxHeartbeats 4000000 in
set_option maxRecDepth 100000 in
theorem law_14 {p : Program} {l : Launch} {e : Env} {s : State} {m : MethodId} {below : List Frame} {meth : Method} {c : Code} {D : va_G} {k : KT} {A : Nat → Prop} {a : Nat → Nat} {z : SK} {b L : Nat} {xs : Nat → Int32} (hL : L ≤ 3072) (C0 : lw_At p s m meth c b L xs) (hK : cK D k s) (hZ : Sx A z s) (hbA : ¬ A b) {G : GS} {i0 : Int32} (hi0 : 0 ≤ i0.toInt) (hi6 : i0.toInt + 6 ≤ L) (hI : LI G) (hB_G : Bd G) {H : Heap} {locs : List Loc} {ls : Array Slot} (hW : Wd D k A a G H) (hS : va_S A s.heap H locs) (hl : lv_has ls 4 [(0, .ref b), (1, .ref (a 0)), (2, .ref (a 66)), (3, .int i0)]) (K : ∀ (G1 : GS) (H1 : Heap) (locs1 : List Loc) (ls1 : Array Slot), LI G1 → Bd G1 → Wd D k A a G1 H1 → va_S A s.heap H1 locs1 → lv_has ls1 4 [(0, .ref b), (1, .ref (a 0)), (2, .ref (a 66)), (3, .int i0)] → W p l e room_1 s m #[Value.ref b] below meth c H1 locs1 119 46443 (lw_Z below #[Value.ref b] s) (F0 m 1641 ls1 [])) : W p l e room_1 s m #[Value.ref b] below meth c H locs 119 46443 (lw_Z below #[Value.ref b] s) (F0 m 796 ls []) := by
  obtain ⟨hx, hb, hr, hml, hown, hts, hX, hbl, hlocks, hgv⟩ := id C0
  have hown : s.vm.findClass RL = some m.cls := hown
  have hgd : ∀ w ∈ gd, w ∈ lw_tbl := fun w h => (List.mem_filter.mp h).1
  have hg : ∀ w ∈ gd, w.before #[Value.ref b] s = true := fun w h => hts w (hgd w h)
  rcases hI with ⟨hv_0_0, hv_0_1, hv_6_4, hj0, hj1, hj2, hj3, hj4, hj5, hj6, hj7, hj8, hj9, hj10, hj11⟩ | ⟨hv_0_0, hv_0_1, hv_6_4, hj0, hj1, hj2, hj3, hj4, hj5, hj6, hj7, hj8, hj9, hj10, hj11⟩
  · skip
    refine lv_aload_n hx hb dL_law_796 rfl (lv_at hl 1 rfl) ?_
    refine lv_aload_n hx hb dL_law_797 rfl (lv_at hl 0 rfl) ?_
    refine lv_iload_n hx hb dL_law_798 rfl (lv_at hl 3 rfl) ?_
    refine lv_iconst (v := 1) hx hb dL_law_799 (by decide) ?_
    refine lv_iadd hx hb dL_law_800 ?_
    refine lv_topi (fun y_1 ey_1 => ?_)
    have ty_1 : y_1.toInt = i0.toInt + 1 := xI_add rfl rfl ey_1 (by omega) (by omega)
    refine va_sld hx hb hX hbl hbA hS (vin (by omega) (by omega)) dL_law_801 ?_
    refine lv_topi (fun y_2 ey_2 => ?_)
    have u_3 : y_2.toInt = (xs (i0 + 1).toNatClampNeg).toInt := by rw [ey_2, ey_1]
    refine lv_aload_n hx hb dL_law_802 rfl (lv_at hl 0 rfl) ?_
    refine lv_iload_n hx hb dL_law_803 rfl (lv_at hl 3 rfl) ?_
    refine lv_iconst (v := 2) hx hb dL_law_804 (by decide) ?_
    refine lv_iadd hx hb dL_law_805 ?_
    refine lv_topi (fun y_4 ey_4 => ?_)
    have ty_4 : y_4.toInt = i0.toInt + 2 := xI_add rfl rfl ey_4 (by omega) (by omega)
    refine va_sld hx hb hX hbl hbA hS (vin (by omega) (by omega)) dL_law_806 ?_
    refine lv_topi (fun y_5 ey_5 => ?_)
    have u_6 : y_5.toInt = (xs (i0 + 2).toNatClampNeg).toInt := by rw [ey_5, ey_4]
    refine lv_aload_n hx hb dL_law_807 rfl (lv_at hl 0 rfl) ?_
    refine lv_iload_n hx hb dL_law_808 rfl (lv_at hl 3 rfl) ?_
    refine lv_iconst (v := 3) hx hb dL_law_809 (by decide) ?_
    refine lv_iadd hx hb dL_law_810 ?_
    refine lv_topi (fun y_7 ey_7 => ?_)
    have ty_7 : y_7.toInt = i0.toInt + 3 := xI_add rfl rfl ey_7 (by omega) (by omega)
    refine va_sld hx hb hX hbl hbA hS (vin (by omega) (by omega)) dL_law_811 ?_
    refine lv_topi (fun y_8 ey_8 => ?_)
    have u_9 : y_8.toInt = (xs (i0 + 3).toNatClampNeg).toInt := by rw [ey_8, ey_7]
    refine lv_aload_n hx hb dL_law_812 rfl (lv_at hl 0 rfl) ?_
    refine lv_iload_n hx hb dL_law_813 rfl (lv_at hl 3 rfl) ?_
    refine lv_iconst (v := 4) hx hb dL_law_814 (by decide) ?_
    refine lv_iadd hx hb dL_law_815 ?_
    refine lv_topi (fun y_10 ey_10 => ?_)
    have ty_10 : y_10.toInt = i0.toInt + 4 := xI_add rfl rfl ey_10 (by omega) (by omega)
    refine va_sld hx hb hX hbl hbA hS (vin (by omega) (by omega)) dL_law_816 ?_
    refine lv_topi (fun y_11 ey_11 => ?_)
    have u_12 : y_11.toInt = (xs (i0 + 4).toNatClampNeg).toInt := by rw [ey_11, ey_10]
    refine lv_aload_n hx hb dL_law_817 rfl (lv_at hl 0 rfl) ?_
    refine lv_iload_n hx hb dL_law_818 rfl (lv_at hl 3 rfl) ?_
    refine lv_iconst (v := 5) hx hb dL_law_819 (by decide) ?_
    refine lv_iadd hx hb dL_law_820 ?_
    refine lv_topi (fun y_13 ey_13 => ?_)
    have ty_13 : y_13.toInt = i0.toInt + 5 := xI_add rfl rfl ey_13 (by omega) (by omega)
    refine va_sld hx hb hX hbl hbA hS (vin (by omega) (by omega)) dL_law_821 ?_
    refine lv_topi (fun y_14 ey_14 => ?_)
    have u_15 : y_14.toInt = (xs (i0 + 5).toNatClampNeg).toInt := by rw [ey_14, ey_13]
    refine S_calli (va_runV (As := [.int y_2, .int y_5, .int y_8, .int y_11, .int y_14]) (rest := []) ⟨hx, hb, hml, hown, hts⟩ (k_Wfirst l D k A a z G y_2 y_5 y_8 y_11 y_14 ) (cwV 5 hts (gd_V hgd m1065 m1066 m1067 m117 m1068) rfl rfl rfl (by decide +kernel) ⟨Nat.le_of_ble_eq_true rfl, Nat.le_of_ble_eq_true rfl⟩) (pre_V hW hB_G hK hZ hS kd_0 rfl) rfl rfl hl.1 rfl (lv_room (Nat.le_of_ble_eq_true rfl)) dL_law_822 ⟨Nat.le_of_ble_eq_true rfl, Nat.le_of_ble_eq_true rfl⟩) hS (fun r_16 G_17 H locs hpo hW hS => ?_)
    have hX_20 : P_Wfirst y_2 y_5 y_8 y_11 y_14 G r_16 G_17 := hpo
    obtain ⟨hB_G_17, hq_18, -⟩ := hpo
    refine lv_pop hx hb dL_law_825 rfl ?_
    refine lv_aload_n hx hb dL_law_826 rfl (lv_at hl 2 rfl) ?_
    refine lv_aload_n hx hb dL_law_827 rfl (lv_at hl 0 rfl) ?_
    refine lv_iload_n hx hb dL_law_828 rfl (lv_at hl 3 rfl) ?_
    refine lv_iconst (v := 1) hx hb dL_law_829 (by decide) ?_
    refine lv_iadd hx hb dL_law_830 ?_
    refine lv_topi (fun y_21 ey_21 => ?_)
    have ty_21 : y_21.toInt = i0.toInt + 1 := xI_add rfl rfl ey_21 (by omega) (by omega)
    refine va_sld hx hb hX hbl hbA hS (vin (by omega) (by omega)) dL_law_831 ?_
    refine lv_topi (fun y_22 ey_22 => ?_)
    have u_23 : y_22.toInt = (xs (i0 + 1).toNatClampNeg).toInt := by rw [ey_22, ey_21]
    refine lv_aload_n hx hb dL_law_832 rfl (lv_at hl 0 rfl) ?_
    refine lv_iload_n hx hb dL_law_833 rfl (lv_at hl 3 rfl) ?_
    refine lv_iconst (v := 2) hx hb dL_law_834 (by decide) ?_
    refine lv_iadd hx hb dL_law_835 ?_
    refine lv_topi (fun y_24 ey_24 => ?_)
    have ty_24 : y_24.toInt = i0.toInt + 2 := xI_add rfl rfl ey_24 (by omega) (by omega)
    refine va_sld hx hb hX hbl hbA hS (vin (by omega) (by omega)) dL_law_836 ?_
    refine lv_topi (fun y_25 ey_25 => ?_)
    have u_26 : y_25.toInt = (xs (i0 + 2).toNatClampNeg).toInt := by rw [ey_25, ey_24]
    refine lv_aload_n hx hb dL_law_837 rfl (lv_at hl 0 rfl) ?_
    refine lv_iload_n hx hb dL_law_838 rfl (lv_at hl 3 rfl) ?_
    refine lv_iconst (v := 3) hx hb dL_law_839 (by decide) ?_
    refine lv_iadd hx hb dL_law_840 ?_
    refine lv_topi (fun y_27 ey_27 => ?_)
    have ty_27 : y_27.toInt = i0.toInt + 3 := xI_add rfl rfl ey_27 (by omega) (by omega)
    refine va_sld hx hb hX hbl hbA hS (vin (by omega) (by omega)) dL_law_841 ?_
    refine lv_topi (fun y_28 ey_28 => ?_)
    have u_29 : y_28.toInt = (xs (i0 + 3).toNatClampNeg).toInt := by rw [ey_28, ey_27]
    refine lv_aload_n hx hb dL_law_842 rfl (lv_at hl 0 rfl) ?_
    refine lv_iload_n hx hb dL_law_843 rfl (lv_at hl 3 rfl) ?_
    refine lv_iconst (v := 4) hx hb dL_law_844 (by decide) ?_
    refine lv_iadd hx hb dL_law_845 ?_
    refine lv_topi (fun y_30 ey_30 => ?_)
    have ty_30 : y_30.toInt = i0.toInt + 4 := xI_add rfl rfl ey_30 (by omega) (by omega)
    refine va_sld hx hb hX hbl hbA hS (vin (by omega) (by omega)) dL_law_846 ?_
    refine lv_topi (fun y_31 ey_31 => ?_)
    have u_32 : y_31.toInt = (xs (i0 + 4).toNatClampNeg).toInt := by rw [ey_31, ey_30]
    refine lv_aload_n hx hb dL_law_847 rfl (lv_at hl 0 rfl) ?_
    refine lv_iload_n hx hb dL_law_848 rfl (lv_at hl 3 rfl) ?_
    refine lv_iconst (v := 5) hx hb dL_law_849 (by decide) ?_
    refine lv_iadd hx hb dL_law_850 ?_
    refine lv_topi (fun y_33 ey_33 => ?_)
    have ty_33 : y_33.toInt = i0.toInt + 5 := xI_add rfl rfl ey_33 (by omega) (by omega)
    refine va_sld hx hb hX hbl hbA hS (vin (by omega) (by omega)) dL_law_851 ?_
    refine lv_topi (fun y_34 ey_34 => ?_)
    have u_35 : y_34.toInt = (xs (i0 + 5).toNatClampNeg).toInt := by rw [ey_34, ey_33]
    refine S_calli (va_runV (As := [.int y_22, .int y_25, .int y_28, .int y_31, .int y_34]) (rest := []) ⟨hx, hb, hml, hown, hts⟩ (n_first l D k A a z G_17 y_22 y_25 y_28 y_31 y_34 ) (cwV 5 hts (gd_V hgd m1903 m1904 m1905 m131 m1906) rfl rfl rfl (by decide +kernel) ⟨Nat.le_of_ble_eq_true rfl, Nat.le_of_ble_eq_true rfl⟩) (pre_V hW hB_G_17 hK hZ hS kd_66 rfl) rfl rfl hl.1 rfl (lv_room (Nat.le_of_ble_eq_true rfl)) dL_law_852 ⟨Nat.le_of_ble_eq_true rfl, Nat.le_of_ble_eq_true rfl⟩) hS (fun r_36 G_37 H locs hpo hW hS => ?_)
    have hX_40 : Q_first y_22 y_25 y_28 y_31 y_34 G_17 r_36 G_37 := hpo
    obtain ⟨hB_G_37, hq_38, -⟩ := hpo
    refine lv_pop hx hb dL_law_855 rfl ?_
    refine lv_goto (tgt := 1641) hx hb dL_law_856 (by decide) ?_
    have g_41 : gIA G_37 = gIA G := gIA_fr (rs := []) (fs := []) ((Fr.rf.call hq_18 (by decide) (by decide)).call hq_38 (by decide) (by decide)) (by decide) (by decide)
    have g_42 : gO G_37 = gO G := gO_fr (rs := []) (fs := []) ((Fr.rf.call hq_18 (by decide) (by decide)).call hq_38 (by decide) (by decide)) (by decide) (by decide)
    have g_43 : gP G_37 = gP G := gP_fr (rs := []) (fs := []) ((Fr.rf.call hq_18 (by decide) (by decide)).call hq_38 (by decide) (by decide)) (by decide) (by decide)
    have g_44 : gS G_37 = gS G := gS_fr (rs := []) (fs := []) ((Fr.rf.call hq_18 (by decide) (by decide)).call hq_38 (by decide) (by decide)) (by decide) (by decide)
    have g_45 : gTE G_37 = gTE G := gTE_fr (rs := []) (fs := []) ((Fr.rf.call hq_18 (by decide) (by decide)).call hq_38 (by decide) (by decide)) (by decide) (by decide)
    have g_46 : gW G_37 = gW G := gW_fr (rs := []) (fs := []) ((Fr.rf.call hq_18 (by decide) (by decide)).call hq_38 (by decide) (by decide)) (by decide) (by decide)
    have b_47 : 0 ≤ (G.1 0 11).toInt ∧ (G.1 0 11).toInt ≤ 1600 := hB_G.i 0 11 rfl rfl
    have g_48 : (G_37.1 0 11).toInt = (G.1 0 11).toInt := by rw [show G_37.1 0 11 = (G.1 0 11) from ((hq_38.i 0 11 (by decide) (by decide)).trans (hq_18.i 0 11 (by decide) (by decide)))]
    have b_49 : 0 ≤ (G.1 3 7).toInt ∧ (G.1 3 7).toInt ≤ 4 := hB_G.i 3 7 rfl rfl
    have g_50 : (G_37.1 3 7).toInt = (G.1 3 7).toInt := by rw [show G_37.1 3 7 = (G.1 3 7) from ((hq_38.i 3 7 (by decide) (by decide)).trans (hq_18.i 3 7 (by decide) (by decide)))]
    have b_51 : (-1) ≤ (G.1 3 8).toInt ∧ (G.1 3 8).toInt ≤ 1600 := hB_G.i 3 8 rfl rfl
    have g_52 : (G_37.1 3 8).toInt = (G.1 3 8).toInt := by rw [show G_37.1 3 8 = (G.1 3 8) from ((hq_38.i 3 8 (by decide) (by decide)).trans (hq_18.i 3 8 (by decide) (by decide)))]
    have b_53 : 0 ≤ (G.1 30 4).toInt ∧ (G.1 30 4).toInt ≤ 40 := hB_G.i 30 4 rfl rfl
    have g_54 : (G_37.1 30 4).toInt = (G.1 30 4).toInt := by rw [show G_37.1 30 4 = (G.1 30 4) from ((hq_38.i 30 4 (by decide) (by decide)).trans (hq_18.i 30 4 (by decide) (by decide)))]
    have b_55 : 0 ≤ (G.1 30 5).toInt ∧ (G.1 30 5).toInt ≤ 40 := hB_G.i 30 5 rfl rfl
    have g_56 : (G_37.1 30 5).toInt = (G.1 30 5).toInt := by rw [show G_37.1 30 5 = (G.1 30 5) from ((hq_38.i 30 5 (by decide) (by decide)).trans (hq_18.i 30 5 (by decide) (by decide)))]
    have b_57 : 0 ≤ (G.1 31 6).toInt ∧ (G.1 31 6).toInt ≤ 100000 := hB_G.i 31 6 rfl rfl
    have g_58 : (G_37.1 31 6).toInt = (G.1 31 6).toInt := by rw [show G_37.1 31 6 = (G.1 31 6) from ((hq_38.i 31 6 (by decide) (by decide)).trans (hq_18.i 31 6 (by decide) (by decide)))]
    have b_59 : 0 ≤ (G.1 66 1).toInt ∧ (G.1 66 1).toInt ≤ 1600 := hB_G.i 66 1 rfl rfl
    have g_60 : (G_37.1 66 1).toInt = (G.1 66 1).toInt := by rw [show G_37.1 66 1 = (G.1 66 1) from ((hq_38.i 66 1 (by decide) (by decide)).trans (hq_18.i 66 1 (by decide) (by decide)))]
    have b_61 : 0 ≤ (G.1 66 2).toInt ∧ (G.1 66 2).toInt ≤ 4 := hB_G.i 66 2 rfl rfl
    have g_62 : (G_37.1 66 2).toInt = (G.1 66 2).toInt := by rw [show G_37.1 66 2 = (G.1 66 2) from ((hq_38.i 66 2 (by decide) (by decide)).trans (hq_18.i 66 2 (by decide) (by decide)))]
    have b_63 : (-1) ≤ (G.1 66 3).toInt ∧ (G.1 66 3).toInt ≤ 1600 := hB_G.i 66 3 rfl rfl
    have g_64 : (G_37.1 66 3).toInt = (G.1 66 3).toInt := by rw [show G_37.1 66 3 = (G.1 66 3) from ((hq_38.i 66 3 (by decide) (by decide)).trans (hq_18.i 66 3 (by decide) (by decide)))]
    have b_65 : 0 ≤ (G.1 66 78).toInt ∧ (G.1 66 78).toInt ≤ 40 := hB_G.i 66 78 rfl rfl
    have g_66 : (G_37.1 66 78).toInt = (G.1 66 78).toInt := by rw [show G_37.1 66 78 = (G.1 66 78) from ((hq_38.i 66 78 (by decide) (by decide)).trans (hq_18.i 66 78 (by decide) (by decide)))]
    have b_67 : 0 ≤ (G.1 66 79).toInt ∧ (G.1 66 79).toInt ≤ 40 := hB_G.i 66 79 rfl rfl
    have g_68 : (G_37.1 66 79).toInt = (G.1 66 79).toInt := by rw [show G_37.1 66 79 = (G.1 66 79) from ((hq_38.i 66 79 (by decide) (by decide)).trans (hq_18.i 66 79 (by decide) (by decide)))]
    have b_69 : 0 ≤ (G.1 66 86).toInt ∧ (G.1 66 86).toInt ≤ 100000 := hB_G.i 66 86 rfl rfl
    have g_70 : (G_37.1 66 86).toInt = (G.1 66 86).toInt := by rw [show G_37.1 66 86 = (G.1 66 86) from ((hq_38.i 66 86 (by decide) (by decide)).trans (hq_18.i 66 86 (by decide) (by decide)))]
    have b_71 : 0 ≤ (G.1 96 0).toInt ∧ (G.1 96 0).toInt ≤ 9 := hB_G.i 96 0 rfl rfl
    have g_72 : (G_37.1 96 0).toInt = (G.1 96 0).toInt := by rw [show G_37.1 96 0 = (G.1 96 0) from ((hq_38.i 96 0 (by decide) (by decide)).trans (hq_18.i 96 0 (by decide) (by decide)))]
    have b_73 : 0 ≤ (G.1 96 1).toInt ∧ (G.1 96 1).toInt ≤ 9 := hB_G.i 96 1 rfl rfl
    have g_74 : (G_37.1 96 1).toInt = (G.1 96 1).toInt := by rw [show G_37.1 96 1 = (G.1 96 1) from ((hq_38.i 96 1 (by decide) (by decide)).trans (hq_18.i 96 1 (by decide) (by decide)))]
    have b_75 : 0 ≤ (G.1 96 2).toInt ∧ (G.1 96 2).toInt ≤ 9 := hB_G.i 96 2 rfl rfl
    have g_76 : (G_37.1 96 2).toInt = (G.1 96 2).toInt := by rw [show G_37.1 96 2 = (G.1 96 2) from ((hq_38.i 96 2 (by decide) (by decide)).trans (hq_18.i 96 2 (by decide) (by decide)))]
    exact K G_37 _ _ _ (Or.inl ⟨((((hq_38.r 0 0 (by decide) (by decide)).trans (hq_18.r 0 0 (by decide) (by decide)))).trans (hv_0_0)), ((((hq_38.r 0 1 (by decide) (by decide)).trans (hq_18.r 0 1 (by decide) (by decide)))).trans (hv_0_1)), ((((hq_38.r 6 4 (by decide) (by decide)).trans (hq_18.r 6 4 (by decide) (by decide)))).trans (hv_6_4)), by omega, by omega, by omega, by omega, by omega, by omega, by omega, by omega, by omega, by omega, by omega, by omega, by omega⟩) hB_G_37 hW hS (lv_sub hl [0, 1, 2, 3] rfl)
  · skip
    refine lv_aload_n hx hb dL_law_796 rfl (lv_at hl 1 rfl) ?_
    refine lv_aload_n hx hb dL_law_797 rfl (lv_at hl 0 rfl) ?_
    refine lv_iload_n hx hb dL_law_798 rfl (lv_at hl 3 rfl) ?_
    refine lv_iconst (v := 1) hx hb dL_law_799 (by decide) ?_
    refine lv_iadd hx hb dL_law_800 ?_
    refine lv_topi (fun y_1 ey_1 => ?_)
    have ty_1 : y_1.toInt = i0.toInt + 1 := xI_add rfl rfl ey_1 (by omega) (by omega)
    refine va_sld hx hb hX hbl hbA hS (vin (by omega) (by omega)) dL_law_801 ?_
    refine lv_topi (fun y_2 ey_2 => ?_)
    have u_3 : y_2.toInt = (xs (i0 + 1).toNatClampNeg).toInt := by rw [ey_2, ey_1]
    refine lv_aload_n hx hb dL_law_802 rfl (lv_at hl 0 rfl) ?_
    refine lv_iload_n hx hb dL_law_803 rfl (lv_at hl 3 rfl) ?_
    refine lv_iconst (v := 2) hx hb dL_law_804 (by decide) ?_
    refine lv_iadd hx hb dL_law_805 ?_
    refine lv_topi (fun y_4 ey_4 => ?_)
    have ty_4 : y_4.toInt = i0.toInt + 2 := xI_add rfl rfl ey_4 (by omega) (by omega)
    refine va_sld hx hb hX hbl hbA hS (vin (by omega) (by omega)) dL_law_806 ?_
    refine lv_topi (fun y_5 ey_5 => ?_)
    have u_6 : y_5.toInt = (xs (i0 + 2).toNatClampNeg).toInt := by rw [ey_5, ey_4]
    refine lv_aload_n hx hb dL_law_807 rfl (lv_at hl 0 rfl) ?_
    refine lv_iload_n hx hb dL_law_808 rfl (lv_at hl 3 rfl) ?_
    refine lv_iconst (v := 3) hx hb dL_law_809 (by decide) ?_
    refine lv_iadd hx hb dL_law_810 ?_
    refine lv_topi (fun y_7 ey_7 => ?_)
    have ty_7 : y_7.toInt = i0.toInt + 3 := xI_add rfl rfl ey_7 (by omega) (by omega)
    refine va_sld hx hb hX hbl hbA hS (vin (by omega) (by omega)) dL_law_811 ?_
    refine lv_topi (fun y_8 ey_8 => ?_)
    have u_9 : y_8.toInt = (xs (i0 + 3).toNatClampNeg).toInt := by rw [ey_8, ey_7]
    refine lv_aload_n hx hb dL_law_812 rfl (lv_at hl 0 rfl) ?_
    refine lv_iload_n hx hb dL_law_813 rfl (lv_at hl 3 rfl) ?_
    refine lv_iconst (v := 4) hx hb dL_law_814 (by decide) ?_
    refine lv_iadd hx hb dL_law_815 ?_
    refine lv_topi (fun y_10 ey_10 => ?_)
    have ty_10 : y_10.toInt = i0.toInt + 4 := xI_add rfl rfl ey_10 (by omega) (by omega)
    refine va_sld hx hb hX hbl hbA hS (vin (by omega) (by omega)) dL_law_816 ?_
    refine lv_topi (fun y_11 ey_11 => ?_)
    have u_12 : y_11.toInt = (xs (i0 + 4).toNatClampNeg).toInt := by rw [ey_11, ey_10]
    refine lv_aload_n hx hb dL_law_817 rfl (lv_at hl 0 rfl) ?_
    refine lv_iload_n hx hb dL_law_818 rfl (lv_at hl 3 rfl) ?_
    refine lv_iconst (v := 5) hx hb dL_law_819 (by decide) ?_
    refine lv_iadd hx hb dL_law_820 ?_
    refine lv_topi (fun y_13 ey_13 => ?_)
    have ty_13 : y_13.toInt = i0.toInt + 5 := xI_add rfl rfl ey_13 (by omega) (by omega)
    refine va_sld hx hb hX hbl hbA hS (vin (by omega) (by omega)) dL_law_821 ?_
    refine lv_topi (fun y_14 ey_14 => ?_)
    have u_15 : y_14.toInt = (xs (i0 + 5).toNatClampNeg).toInt := by rw [ey_14, ey_13]
    refine S_calli (va_runV (As := [.int y_2, .int y_5, .int y_8, .int y_11, .int y_14]) (rest := []) ⟨hx, hb, hml, hown, hts⟩ (k_Wfirst l D k A a z G y_2 y_5 y_8 y_11 y_14 ) (cwV 5 hts (gd_V hgd m1065 m1066 m1067 m117 m1068) rfl rfl rfl (by decide +kernel) ⟨Nat.le_of_ble_eq_true rfl, Nat.le_of_ble_eq_true rfl⟩) (pre_V hW hB_G hK hZ hS kd_0 rfl) rfl rfl hl.1 rfl (lv_room (Nat.le_of_ble_eq_true rfl)) dL_law_822 ⟨Nat.le_of_ble_eq_true rfl, Nat.le_of_ble_eq_true rfl⟩) hS (fun r_16 G_17 H locs hpo hW hS => ?_)
    have hX_20 : P_Wfirst y_2 y_5 y_8 y_11 y_14 G r_16 G_17 := hpo
    obtain ⟨hB_G_17, hq_18, -⟩ := hpo
    refine lv_pop hx hb dL_law_825 rfl ?_
    refine lv_aload_n hx hb dL_law_826 rfl (lv_at hl 2 rfl) ?_
    refine lv_aload_n hx hb dL_law_827 rfl (lv_at hl 0 rfl) ?_
    refine lv_iload_n hx hb dL_law_828 rfl (lv_at hl 3 rfl) ?_
    refine lv_iconst (v := 1) hx hb dL_law_829 (by decide) ?_
    refine lv_iadd hx hb dL_law_830 ?_
    refine lv_topi (fun y_21 ey_21 => ?_)
    have ty_21 : y_21.toInt = i0.toInt + 1 := xI_add rfl rfl ey_21 (by omega) (by omega)
    refine va_sld hx hb hX hbl hbA hS (vin (by omega) (by omega)) dL_law_831 ?_
    refine lv_topi (fun y_22 ey_22 => ?_)
    have u_23 : y_22.toInt = (xs (i0 + 1).toNatClampNeg).toInt := by rw [ey_22, ey_21]
    refine lv_aload_n hx hb dL_law_832 rfl (lv_at hl 0 rfl) ?_
    refine lv_iload_n hx hb dL_law_833 rfl (lv_at hl 3 rfl) ?_
    refine lv_iconst (v := 2) hx hb dL_law_834 (by decide) ?_
    refine lv_iadd hx hb dL_law_835 ?_
    refine lv_topi (fun y_24 ey_24 => ?_)
    have ty_24 : y_24.toInt = i0.toInt + 2 := xI_add rfl rfl ey_24 (by omega) (by omega)
    refine va_sld hx hb hX hbl hbA hS (vin (by omega) (by omega)) dL_law_836 ?_
    refine lv_topi (fun y_25 ey_25 => ?_)
    have u_26 : y_25.toInt = (xs (i0 + 2).toNatClampNeg).toInt := by rw [ey_25, ey_24]
    refine lv_aload_n hx hb dL_law_837 rfl (lv_at hl 0 rfl) ?_
    refine lv_iload_n hx hb dL_law_838 rfl (lv_at hl 3 rfl) ?_
    refine lv_iconst (v := 3) hx hb dL_law_839 (by decide) ?_
    refine lv_iadd hx hb dL_law_840 ?_
    refine lv_topi (fun y_27 ey_27 => ?_)
    have ty_27 : y_27.toInt = i0.toInt + 3 := xI_add rfl rfl ey_27 (by omega) (by omega)
    refine va_sld hx hb hX hbl hbA hS (vin (by omega) (by omega)) dL_law_841 ?_
    refine lv_topi (fun y_28 ey_28 => ?_)
    have u_29 : y_28.toInt = (xs (i0 + 3).toNatClampNeg).toInt := by rw [ey_28, ey_27]
    refine lv_aload_n hx hb dL_law_842 rfl (lv_at hl 0 rfl) ?_
    refine lv_iload_n hx hb dL_law_843 rfl (lv_at hl 3 rfl) ?_
    refine lv_iconst (v := 4) hx hb dL_law_844 (by decide) ?_
    refine lv_iadd hx hb dL_law_845 ?_
    refine lv_topi (fun y_30 ey_30 => ?_)
    have ty_30 : y_30.toInt = i0.toInt + 4 := xI_add rfl rfl ey_30 (by omega) (by omega)
    refine va_sld hx hb hX hbl hbA hS (vin (by omega) (by omega)) dL_law_846 ?_
    refine lv_topi (fun y_31 ey_31 => ?_)
    have u_32 : y_31.toInt = (xs (i0 + 4).toNatClampNeg).toInt := by rw [ey_31, ey_30]
    refine lv_aload_n hx hb dL_law_847 rfl (lv_at hl 0 rfl) ?_
    refine lv_iload_n hx hb dL_law_848 rfl (lv_at hl 3 rfl) ?_
    refine lv_iconst (v := 5) hx hb dL_law_849 (by decide) ?_
    refine lv_iadd hx hb dL_law_850 ?_
    refine lv_topi (fun y_33 ey_33 => ?_)
    have ty_33 : y_33.toInt = i0.toInt + 5 := xI_add rfl rfl ey_33 (by omega) (by omega)
    refine va_sld hx hb hX hbl hbA hS (vin (by omega) (by omega)) dL_law_851 ?_
    refine lv_topi (fun y_34 ey_34 => ?_)
    have u_35 : y_34.toInt = (xs (i0 + 5).toNatClampNeg).toInt := by rw [ey_34, ey_33]
    refine S_calli (va_runV (As := [.int y_22, .int y_25, .int y_28, .int y_31, .int y_34]) (rest := []) ⟨hx, hb, hml, hown, hts⟩ (n_first l D k A a z G_17 y_22 y_25 y_28 y_31 y_34 ) (cwV 5 hts (gd_V hgd m1903 m1904 m1905 m131 m1906) rfl rfl rfl (by decide +kernel) ⟨Nat.le_of_ble_eq_true rfl, Nat.le_of_ble_eq_true rfl⟩) (pre_V hW hB_G_17 hK hZ hS kd_66 rfl) rfl rfl hl.1 rfl (lv_room (Nat.le_of_ble_eq_true rfl)) dL_law_852 ⟨Nat.le_of_ble_eq_true rfl, Nat.le_of_ble_eq_true rfl⟩) hS (fun r_36 G_37 H locs hpo hW hS => ?_)
    have hX_40 : Q_first y_22 y_25 y_28 y_31 y_34 G_17 r_36 G_37 := hpo
    obtain ⟨hB_G_37, hq_38, -⟩ := hpo
    refine lv_pop hx hb dL_law_855 rfl ?_
    refine lv_goto (tgt := 1641) hx hb dL_law_856 (by decide) ?_
    have g_41 : gIB G_37 = gIB G := gIB_fr (rs := []) (fs := []) ((Fr.rf.call hq_18 (by decide) (by decide)).call hq_38 (by decide) (by decide)) (by decide) (by decide)
    have g_42 : gO G_37 = gO G := gO_fr (rs := []) (fs := []) ((Fr.rf.call hq_18 (by decide) (by decide)).call hq_38 (by decide) (by decide)) (by decide) (by decide)
    have g_43 : gP G_37 = gP G := gP_fr (rs := []) (fs := []) ((Fr.rf.call hq_18 (by decide) (by decide)).call hq_38 (by decide) (by decide)) (by decide) (by decide)
    have g_44 : gS G_37 = gS G := gS_fr (rs := []) (fs := []) ((Fr.rf.call hq_18 (by decide) (by decide)).call hq_38 (by decide) (by decide)) (by decide) (by decide)
    have g_45 : gTE G_37 = gTE G := gTE_fr (rs := []) (fs := []) ((Fr.rf.call hq_18 (by decide) (by decide)).call hq_38 (by decide) (by decide)) (by decide) (by decide)
    have g_46 : gW G_37 = gW G := gW_fr (rs := []) (fs := []) ((Fr.rf.call hq_18 (by decide) (by decide)).call hq_38 (by decide) (by decide)) (by decide) (by decide)
    have b_47 : 0 ≤ (G.1 0 11).toInt ∧ (G.1 0 11).toInt ≤ 1600 := hB_G.i 0 11 rfl rfl
    have g_48 : (G_37.1 0 11).toInt = (G.1 0 11).toInt := by rw [show G_37.1 0 11 = (G.1 0 11) from ((hq_38.i 0 11 (by decide) (by decide)).trans (hq_18.i 0 11 (by decide) (by decide)))]
    have b_49 : 0 ≤ (G.1 3 7).toInt ∧ (G.1 3 7).toInt ≤ 4 := hB_G.i 3 7 rfl rfl
    have g_50 : (G_37.1 3 7).toInt = (G.1 3 7).toInt := by rw [show G_37.1 3 7 = (G.1 3 7) from ((hq_38.i 3 7 (by decide) (by decide)).trans (hq_18.i 3 7 (by decide) (by decide)))]
    have b_51 : (-1) ≤ (G.1 3 8).toInt ∧ (G.1 3 8).toInt ≤ 1600 := hB_G.i 3 8 rfl rfl
    have g_52 : (G_37.1 3 8).toInt = (G.1 3 8).toInt := by rw [show G_37.1 3 8 = (G.1 3 8) from ((hq_38.i 3 8 (by decide) (by decide)).trans (hq_18.i 3 8 (by decide) (by decide)))]
    have b_53 : 0 ≤ (G.1 30 4).toInt ∧ (G.1 30 4).toInt ≤ 40 := hB_G.i 30 4 rfl rfl
    have g_54 : (G_37.1 30 4).toInt = (G.1 30 4).toInt := by rw [show G_37.1 30 4 = (G.1 30 4) from ((hq_38.i 30 4 (by decide) (by decide)).trans (hq_18.i 30 4 (by decide) (by decide)))]
    have b_55 : 0 ≤ (G.1 30 5).toInt ∧ (G.1 30 5).toInt ≤ 40 := hB_G.i 30 5 rfl rfl
    have g_56 : (G_37.1 30 5).toInt = (G.1 30 5).toInt := by rw [show G_37.1 30 5 = (G.1 30 5) from ((hq_38.i 30 5 (by decide) (by decide)).trans (hq_18.i 30 5 (by decide) (by decide)))]
    have b_57 : 0 ≤ (G.1 31 6).toInt ∧ (G.1 31 6).toInt ≤ 100000 := hB_G.i 31 6 rfl rfl
    have g_58 : (G_37.1 31 6).toInt = (G.1 31 6).toInt := by rw [show G_37.1 31 6 = (G.1 31 6) from ((hq_38.i 31 6 (by decide) (by decide)).trans (hq_18.i 31 6 (by decide) (by decide)))]
    have b_59 : 0 ≤ (G.1 66 1).toInt ∧ (G.1 66 1).toInt ≤ 1600 := hB_G.i 66 1 rfl rfl
    have g_60 : (G_37.1 66 1).toInt = (G.1 66 1).toInt := by rw [show G_37.1 66 1 = (G.1 66 1) from ((hq_38.i 66 1 (by decide) (by decide)).trans (hq_18.i 66 1 (by decide) (by decide)))]
    have b_61 : 0 ≤ (G.1 66 2).toInt ∧ (G.1 66 2).toInt ≤ 4 := hB_G.i 66 2 rfl rfl
    have g_62 : (G_37.1 66 2).toInt = (G.1 66 2).toInt := by rw [show G_37.1 66 2 = (G.1 66 2) from ((hq_38.i 66 2 (by decide) (by decide)).trans (hq_18.i 66 2 (by decide) (by decide)))]
    have b_63 : (-1) ≤ (G.1 66 3).toInt ∧ (G.1 66 3).toInt ≤ 1600 := hB_G.i 66 3 rfl rfl
    have g_64 : (G_37.1 66 3).toInt = (G.1 66 3).toInt := by rw [show G_37.1 66 3 = (G.1 66 3) from ((hq_38.i 66 3 (by decide) (by decide)).trans (hq_18.i 66 3 (by decide) (by decide)))]
    have b_65 : 0 ≤ (G.1 66 78).toInt ∧ (G.1 66 78).toInt ≤ 40 := hB_G.i 66 78 rfl rfl
    have g_66 : (G_37.1 66 78).toInt = (G.1 66 78).toInt := by rw [show G_37.1 66 78 = (G.1 66 78) from ((hq_38.i 66 78 (by decide) (by decide)).trans (hq_18.i 66 78 (by decide) (by decide)))]
    have b_67 : 0 ≤ (G.1 66 79).toInt ∧ (G.1 66 79).toInt ≤ 40 := hB_G.i 66 79 rfl rfl
    have g_68 : (G_37.1 66 79).toInt = (G.1 66 79).toInt := by rw [show G_37.1 66 79 = (G.1 66 79) from ((hq_38.i 66 79 (by decide) (by decide)).trans (hq_18.i 66 79 (by decide) (by decide)))]
    have b_69 : 0 ≤ (G.1 66 86).toInt ∧ (G.1 66 86).toInt ≤ 100000 := hB_G.i 66 86 rfl rfl
    have g_70 : (G_37.1 66 86).toInt = (G.1 66 86).toInt := by rw [show G_37.1 66 86 = (G.1 66 86) from ((hq_38.i 66 86 (by decide) (by decide)).trans (hq_18.i 66 86 (by decide) (by decide)))]
    have b_71 : 0 ≤ (G.1 96 0).toInt ∧ (G.1 96 0).toInt ≤ 9 := hB_G.i 96 0 rfl rfl
    have g_72 : (G_37.1 96 0).toInt = (G.1 96 0).toInt := by rw [show G_37.1 96 0 = (G.1 96 0) from ((hq_38.i 96 0 (by decide) (by decide)).trans (hq_18.i 96 0 (by decide) (by decide)))]
    have b_73 : 0 ≤ (G.1 96 1).toInt ∧ (G.1 96 1).toInt ≤ 9 := hB_G.i 96 1 rfl rfl
    have g_74 : (G_37.1 96 1).toInt = (G.1 96 1).toInt := by rw [show G_37.1 96 1 = (G.1 96 1) from ((hq_38.i 96 1 (by decide) (by decide)).trans (hq_18.i 96 1 (by decide) (by decide)))]
    have b_75 : 0 ≤ (G.1 96 2).toInt ∧ (G.1 96 2).toInt ≤ 9 := hB_G.i 96 2 rfl rfl
    have g_76 : (G_37.1 96 2).toInt = (G.1 96 2).toInt := by rw [show G_37.1 96 2 = (G.1 96 2) from ((hq_38.i 96 2 (by decide) (by decide)).trans (hq_18.i 96 2 (by decide) (by decide)))]
    exact K G_37 _ _ _ (Or.inr ⟨((((hq_38.r 0 0 (by decide) (by decide)).trans (hq_18.r 0 0 (by decide) (by decide)))).trans (hv_0_0)), ((((hq_38.r 0 1 (by decide) (by decide)).trans (hq_18.r 0 1 (by decide) (by decide)))).trans (hv_0_1)), ((((hq_38.r 6 4 (by decide) (by decide)).trans (hq_18.r 6 4 (by decide) (by decide)))).trans (hv_6_4)), by omega, by omega, by omega, by omega, by omega, by omega, by omega, by omega, by omega, by omega, by omega, by omega, by omega⟩) hB_G_37 hW hS (lv_sub hl [0, 1, 2, 3] rfl)

set_option maxHeartbeats 4000000 in
set_option maxRecDepth 100000 in
theorem law_15 {p : Program} {l : Launch} {e : Env} {s : State} {m : MethodId} {below : List Frame} {meth : Method} {c : Code} {D : va_G} {k : KT} {A : Nat → Prop} {a : Nat → Nat} {z : SK} {b L : Nat} {xs : Nat → Int32} (hL : L ≤ 3072) (C0 : lw_At p s m meth c b L xs) (hK : cK D k s) (hZ : Sx A z s) (hbA : ¬ A b) {G : GS} {i0 : Int32} (hi0 : 0 ≤ i0.toInt) (hi6 : i0.toInt + 6 ≤ L) (hI : LI G) (hB_G : Bd G) {H : Heap} {locs : List Loc} {ls : Array Slot} (hW : Wd D k A a G H) (hS : va_S A s.heap H locs) (hl : lv_has ls 4 [(0, .ref b), (1, .ref (a 0)), (2, .ref (a 66)), (3, .int i0)]) (K : ∀ (G1 : GS) (H1 : Heap) (locs1 : List Loc) (ls1 : Array Slot), LI G1 → Bd G1 → Wd D k A a G1 H1 → va_S A s.heap H1 locs1 → lv_has ls1 4 [(0, .ref b), (1, .ref (a 0)), (2, .ref (a 66)), (3, .int i0)] → W p l e room_1 s m #[Value.ref b] below meth c H1 locs1 119 46443 (lw_Z below #[Value.ref b] s) (F0 m 1641 ls1 [])) : W p l e room_1 s m #[Value.ref b] below meth c H locs 119 46443 (lw_Z below #[Value.ref b] s) (F0 m 859 ls []) := by
  obtain ⟨hx, hb, hr, hml, hown, hts, hX, hbl, hlocks, hgv⟩ := id C0
  have hown : s.vm.findClass RL = some m.cls := hown
  have hgd : ∀ w ∈ gd, w ∈ lw_tbl := fun w h => (List.mem_filter.mp h).1
  have hg : ∀ w ∈ gd, w.before #[Value.ref b] s = true := fun w h => hts w (hgd w h)
  rcases hI with ⟨hv_0_0, hv_0_1, hv_6_4, hj0, hj1, hj2, hj3, hj4, hj5, hj6, hj7, hj8, hj9, hj10, hj11⟩ | ⟨hv_0_0, hv_0_1, hv_6_4, hj0, hj1, hj2, hj3, hj4, hj5, hj6, hj7, hj8, hj9, hj10, hj11⟩
  · skip
    refine lv_aload_n hx hb dL_law_859 rfl (lv_at hl 1 rfl) ?_
    refine lv_aload_n hx hb dL_law_860 rfl (lv_at hl 0 rfl) ?_
    refine lv_iload_n hx hb dL_law_861 rfl (lv_at hl 3 rfl) ?_
    refine lv_iconst (v := 1) hx hb dL_law_862 (by decide) ?_
    refine lv_iadd hx hb dL_law_863 ?_
    refine lv_topi (fun y_1 ey_1 => ?_)
    have ty_1 : y_1.toInt = i0.toInt + 1 := xI_add rfl rfl ey_1 (by omega) (by omega)
    refine va_sld hx hb hX hbl hbA hS (vin (by omega) (by omega)) dL_law_864 ?_
    refine lv_topi (fun y_2 ey_2 => ?_)
    have u_3 : y_2.toInt = (xs (i0 + 1).toNatClampNeg).toInt := by rw [ey_2, ey_1]
    refine lv_aload_n hx hb dL_law_865 rfl (lv_at hl 0 rfl) ?_
    refine lv_iload_n hx hb dL_law_866 rfl (lv_at hl 3 rfl) ?_
    refine lv_iconst (v := 2) hx hb dL_law_867 (by decide) ?_
    refine lv_iadd hx hb dL_law_868 ?_
    refine lv_topi (fun y_4 ey_4 => ?_)
    have ty_4 : y_4.toInt = i0.toInt + 2 := xI_add rfl rfl ey_4 (by omega) (by omega)
    refine va_sld hx hb hX hbl hbA hS (vin (by omega) (by omega)) dL_law_869 ?_
    refine lv_topi (fun y_5 ey_5 => ?_)
    have u_6 : y_5.toInt = (xs (i0 + 2).toNatClampNeg).toInt := by rw [ey_5, ey_4]
    refine lv_aload_n hx hb dL_law_870 rfl (lv_at hl 0 rfl) ?_
    refine lv_iload_n hx hb dL_law_871 rfl (lv_at hl 3 rfl) ?_
    refine lv_iconst (v := 3) hx hb dL_law_872 (by decide) ?_
    refine lv_iadd hx hb dL_law_873 ?_
    refine lv_topi (fun y_7 ey_7 => ?_)
    have ty_7 : y_7.toInt = i0.toInt + 3 := xI_add rfl rfl ey_7 (by omega) (by omega)
    refine va_sld hx hb hX hbl hbA hS (vin (by omega) (by omega)) dL_law_874 ?_
    refine lv_topi (fun y_8 ey_8 => ?_)
    have u_9 : y_8.toInt = (xs (i0 + 3).toNatClampNeg).toInt := by rw [ey_8, ey_7]
    refine lv_aload_n hx hb dL_law_875 rfl (lv_at hl 0 rfl) ?_
    refine lv_iload_n hx hb dL_law_876 rfl (lv_at hl 3 rfl) ?_
    refine lv_iconst (v := 4) hx hb dL_law_877 (by decide) ?_
    refine lv_iadd hx hb dL_law_878 ?_
    refine lv_topi (fun y_10 ey_10 => ?_)
    have ty_10 : y_10.toInt = i0.toInt + 4 := xI_add rfl rfl ey_10 (by omega) (by omega)
    refine va_sld hx hb hX hbl hbA hS (vin (by omega) (by omega)) dL_law_879 ?_
    refine lv_topi (fun y_11 ey_11 => ?_)
    have u_12 : y_11.toInt = (xs (i0 + 4).toNatClampNeg).toInt := by rw [ey_11, ey_10]
    refine S_calli (va_runV (As := [.int y_2, .int y_5, .int y_8, .int y_11]) (rest := []) ⟨hx, hb, hml, hown, hts⟩ (k_Wbegin l D k A a z G y_2 y_5 y_8 y_11 ) (cwV 4 hts (gd_V hgd m1072 m1073 m1074 m117 m1075) rfl rfl rfl (by decide +kernel) ⟨Nat.le_of_ble_eq_true rfl, Nat.le_of_ble_eq_true rfl⟩) (pre_V hW hB_G hK hZ hS kd_0 rfl) rfl rfl hl.1 rfl (lv_room (Nat.le_of_ble_eq_true rfl)) dL_law_880 ⟨Nat.le_of_ble_eq_true rfl, Nat.le_of_ble_eq_true rfl⟩) hS (fun r_13 G_14 H locs hpo hW hS => ?_)
    have hX_17 : P_Wbegin y_2 y_5 y_8 y_11 G r_13 G_14 := hpo
    obtain ⟨hB_G_14, hq_15, -⟩ := hpo
    refine lv_pop hx hb dL_law_883 rfl ?_
    refine lv_aload_n hx hb dL_law_884 rfl (lv_at hl 2 rfl) ?_
    refine lv_aload_n hx hb dL_law_885 rfl (lv_at hl 0 rfl) ?_
    refine lv_iload_n hx hb dL_law_886 rfl (lv_at hl 3 rfl) ?_
    refine lv_iconst (v := 1) hx hb dL_law_887 (by decide) ?_
    refine lv_iadd hx hb dL_law_888 ?_
    refine lv_topi (fun y_18 ey_18 => ?_)
    have ty_18 : y_18.toInt = i0.toInt + 1 := xI_add rfl rfl ey_18 (by omega) (by omega)
    refine va_sld hx hb hX hbl hbA hS (vin (by omega) (by omega)) dL_law_889 ?_
    refine lv_topi (fun y_19 ey_19 => ?_)
    have u_20 : y_19.toInt = (xs (i0 + 1).toNatClampNeg).toInt := by rw [ey_19, ey_18]
    refine lv_aload_n hx hb dL_law_890 rfl (lv_at hl 0 rfl) ?_
    refine lv_iload_n hx hb dL_law_891 rfl (lv_at hl 3 rfl) ?_
    refine lv_iconst (v := 2) hx hb dL_law_892 (by decide) ?_
    refine lv_iadd hx hb dL_law_893 ?_
    refine lv_topi (fun y_21 ey_21 => ?_)
    have ty_21 : y_21.toInt = i0.toInt + 2 := xI_add rfl rfl ey_21 (by omega) (by omega)
    refine va_sld hx hb hX hbl hbA hS (vin (by omega) (by omega)) dL_law_894 ?_
    refine lv_topi (fun y_22 ey_22 => ?_)
    have u_23 : y_22.toInt = (xs (i0 + 2).toNatClampNeg).toInt := by rw [ey_22, ey_21]
    refine lv_aload_n hx hb dL_law_895 rfl (lv_at hl 0 rfl) ?_
    refine lv_iload_n hx hb dL_law_896 rfl (lv_at hl 3 rfl) ?_
    refine lv_iconst (v := 3) hx hb dL_law_897 (by decide) ?_
    refine lv_iadd hx hb dL_law_898 ?_
    refine lv_topi (fun y_24 ey_24 => ?_)
    have ty_24 : y_24.toInt = i0.toInt + 3 := xI_add rfl rfl ey_24 (by omega) (by omega)
    refine va_sld hx hb hX hbl hbA hS (vin (by omega) (by omega)) dL_law_899 ?_
    refine lv_topi (fun y_25 ey_25 => ?_)
    have u_26 : y_25.toInt = (xs (i0 + 3).toNatClampNeg).toInt := by rw [ey_25, ey_24]
    refine lv_aload_n hx hb dL_law_900 rfl (lv_at hl 0 rfl) ?_
    refine lv_iload_n hx hb dL_law_901 rfl (lv_at hl 3 rfl) ?_
    refine lv_iconst (v := 4) hx hb dL_law_902 (by decide) ?_
    refine lv_iadd hx hb dL_law_903 ?_
    refine lv_topi (fun y_27 ey_27 => ?_)
    have ty_27 : y_27.toInt = i0.toInt + 4 := xI_add rfl rfl ey_27 (by omega) (by omega)
    refine va_sld hx hb hX hbl hbA hS (vin (by omega) (by omega)) dL_law_904 ?_
    refine lv_topi (fun y_28 ey_28 => ?_)
    have u_29 : y_28.toInt = (xs (i0 + 4).toNatClampNeg).toInt := by rw [ey_28, ey_27]
    refine S_calli (va_runV (As := [.int y_19, .int y_22, .int y_25, .int y_28]) (rest := []) ⟨hx, hb, hml, hown, hts⟩ (n_begin l D k A a z G_14 y_19 y_22 y_25 y_28 ) (cwV 4 hts (gd_V hgd m1916 m1917 m1918 m131 m1919) rfl rfl rfl (by decide +kernel) ⟨Nat.le_of_ble_eq_true rfl, Nat.le_of_ble_eq_true rfl⟩) (pre_V hW hB_G_14 hK hZ hS kd_66 rfl) rfl rfl hl.1 rfl (lv_room (Nat.le_of_ble_eq_true rfl)) dL_law_905 ⟨Nat.le_of_ble_eq_true rfl, Nat.le_of_ble_eq_true rfl⟩) hS (fun r_30 G_31 H locs hpo hW hS => ?_)
    have hX_34 : Q_begin y_19 y_22 y_25 y_28 G_14 r_30 G_31 := hpo
    obtain ⟨hB_G_31, hq_32, -⟩ := hpo
    refine lv_pop hx hb dL_law_908 rfl ?_
    refine lv_goto (tgt := 1641) hx hb dL_law_909 (by decide) ?_
    have g_35 : gIA G_31 = gIA G := gIA_fr (rs := []) (fs := []) ((Fr.rf.call hq_15 (by decide) (by decide)).call hq_32 (by decide) (by decide)) (by decide) (by decide)
    have g_36 : gO G_31 = gO G := gO_fr (rs := []) (fs := []) ((Fr.rf.call hq_15 (by decide) (by decide)).call hq_32 (by decide) (by decide)) (by decide) (by decide)
    have g_37 : gP G_31 = gP G := gP_fr (rs := []) (fs := []) ((Fr.rf.call hq_15 (by decide) (by decide)).call hq_32 (by decide) (by decide)) (by decide) (by decide)
    have g_38 : gS G_31 = gS G := gS_fr (rs := []) (fs := []) ((Fr.rf.call hq_15 (by decide) (by decide)).call hq_32 (by decide) (by decide)) (by decide) (by decide)
    have g_39 : gTE G_31 = gTE G := gTE_fr (rs := []) (fs := []) ((Fr.rf.call hq_15 (by decide) (by decide)).call hq_32 (by decide) (by decide)) (by decide) (by decide)
    have g_40 : gW G_31 = gW G := gW_fr (rs := []) (fs := []) ((Fr.rf.call hq_15 (by decide) (by decide)).call hq_32 (by decide) (by decide)) (by decide) (by decide)
    have b_41 : 0 ≤ (G.1 0 11).toInt ∧ (G.1 0 11).toInt ≤ 1600 := hB_G.i 0 11 rfl rfl
    have g_42 : (G_31.1 0 11).toInt = (G.1 0 11).toInt := by rw [show G_31.1 0 11 = (G.1 0 11) from ((hq_32.i 0 11 (by decide) (by decide)).trans (hq_15.i 0 11 (by decide) (by decide)))]
    have b_43 : 0 ≤ (G.1 3 7).toInt ∧ (G.1 3 7).toInt ≤ 4 := hB_G.i 3 7 rfl rfl
    have g_44 : (G_31.1 3 7).toInt = (G.1 3 7).toInt := by rw [show G_31.1 3 7 = (G.1 3 7) from ((hq_32.i 3 7 (by decide) (by decide)).trans (hq_15.i 3 7 (by decide) (by decide)))]
    have b_45 : (-1) ≤ (G.1 3 8).toInt ∧ (G.1 3 8).toInt ≤ 1600 := hB_G.i 3 8 rfl rfl
    have g_46 : (G_31.1 3 8).toInt = (G.1 3 8).toInt := by rw [show G_31.1 3 8 = (G.1 3 8) from ((hq_32.i 3 8 (by decide) (by decide)).trans (hq_15.i 3 8 (by decide) (by decide)))]
    have b_47 : 0 ≤ (G.1 30 4).toInt ∧ (G.1 30 4).toInt ≤ 40 := hB_G.i 30 4 rfl rfl
    have g_48 : (G_31.1 30 4).toInt = (G.1 30 4).toInt := by rw [show G_31.1 30 4 = (G.1 30 4) from ((hq_32.i 30 4 (by decide) (by decide)).trans (hq_15.i 30 4 (by decide) (by decide)))]
    have b_49 : 0 ≤ (G.1 30 5).toInt ∧ (G.1 30 5).toInt ≤ 40 := hB_G.i 30 5 rfl rfl
    have g_50 : (G_31.1 30 5).toInt = (G.1 30 5).toInt := by rw [show G_31.1 30 5 = (G.1 30 5) from ((hq_32.i 30 5 (by decide) (by decide)).trans (hq_15.i 30 5 (by decide) (by decide)))]
    have b_51 : 0 ≤ (G.1 31 6).toInt ∧ (G.1 31 6).toInt ≤ 100000 := hB_G.i 31 6 rfl rfl
    have g_52 : (G_31.1 31 6).toInt = (G.1 31 6).toInt := by rw [show G_31.1 31 6 = (G.1 31 6) from ((hq_32.i 31 6 (by decide) (by decide)).trans (hq_15.i 31 6 (by decide) (by decide)))]
    have b_53 : 0 ≤ (G.1 66 1).toInt ∧ (G.1 66 1).toInt ≤ 1600 := hB_G.i 66 1 rfl rfl
    have g_54 : (G_31.1 66 1).toInt = (G.1 66 1).toInt := by rw [show G_31.1 66 1 = (G.1 66 1) from ((hq_32.i 66 1 (by decide) (by decide)).trans (hq_15.i 66 1 (by decide) (by decide)))]
    have b_55 : 0 ≤ (G.1 66 2).toInt ∧ (G.1 66 2).toInt ≤ 4 := hB_G.i 66 2 rfl rfl
    have g_56 : (G_31.1 66 2).toInt = (G.1 66 2).toInt := by rw [show G_31.1 66 2 = (G.1 66 2) from ((hq_32.i 66 2 (by decide) (by decide)).trans (hq_15.i 66 2 (by decide) (by decide)))]
    have b_57 : (-1) ≤ (G.1 66 3).toInt ∧ (G.1 66 3).toInt ≤ 1600 := hB_G.i 66 3 rfl rfl
    have g_58 : (G_31.1 66 3).toInt = (G.1 66 3).toInt := by rw [show G_31.1 66 3 = (G.1 66 3) from ((hq_32.i 66 3 (by decide) (by decide)).trans (hq_15.i 66 3 (by decide) (by decide)))]
    have b_59 : 0 ≤ (G.1 66 78).toInt ∧ (G.1 66 78).toInt ≤ 40 := hB_G.i 66 78 rfl rfl
    have g_60 : (G_31.1 66 78).toInt = (G.1 66 78).toInt := by rw [show G_31.1 66 78 = (G.1 66 78) from ((hq_32.i 66 78 (by decide) (by decide)).trans (hq_15.i 66 78 (by decide) (by decide)))]
    have b_61 : 0 ≤ (G.1 66 79).toInt ∧ (G.1 66 79).toInt ≤ 40 := hB_G.i 66 79 rfl rfl
    have g_62 : (G_31.1 66 79).toInt = (G.1 66 79).toInt := by rw [show G_31.1 66 79 = (G.1 66 79) from ((hq_32.i 66 79 (by decide) (by decide)).trans (hq_15.i 66 79 (by decide) (by decide)))]
    have b_63 : 0 ≤ (G.1 66 86).toInt ∧ (G.1 66 86).toInt ≤ 100000 := hB_G.i 66 86 rfl rfl
    have g_64 : (G_31.1 66 86).toInt = (G.1 66 86).toInt := by rw [show G_31.1 66 86 = (G.1 66 86) from ((hq_32.i 66 86 (by decide) (by decide)).trans (hq_15.i 66 86 (by decide) (by decide)))]
    have b_65 : 0 ≤ (G.1 96 0).toInt ∧ (G.1 96 0).toInt ≤ 9 := hB_G.i 96 0 rfl rfl
    have g_66 : (G_31.1 96 0).toInt = (G.1 96 0).toInt := by rw [show G_31.1 96 0 = (G.1 96 0) from ((hq_32.i 96 0 (by decide) (by decide)).trans (hq_15.i 96 0 (by decide) (by decide)))]
    have b_67 : 0 ≤ (G.1 96 1).toInt ∧ (G.1 96 1).toInt ≤ 9 := hB_G.i 96 1 rfl rfl
    have g_68 : (G_31.1 96 1).toInt = (G.1 96 1).toInt := by rw [show G_31.1 96 1 = (G.1 96 1) from ((hq_32.i 96 1 (by decide) (by decide)).trans (hq_15.i 96 1 (by decide) (by decide)))]
    have b_69 : 0 ≤ (G.1 96 2).toInt ∧ (G.1 96 2).toInt ≤ 9 := hB_G.i 96 2 rfl rfl
    have g_70 : (G_31.1 96 2).toInt = (G.1 96 2).toInt := by rw [show G_31.1 96 2 = (G.1 96 2) from ((hq_32.i 96 2 (by decide) (by decide)).trans (hq_15.i 96 2 (by decide) (by decide)))]
    exact K G_31 _ _ _ (Or.inl ⟨((((hq_32.r 0 0 (by decide) (by decide)).trans (hq_15.r 0 0 (by decide) (by decide)))).trans (hv_0_0)), ((((hq_32.r 0 1 (by decide) (by decide)).trans (hq_15.r 0 1 (by decide) (by decide)))).trans (hv_0_1)), ((((hq_32.r 6 4 (by decide) (by decide)).trans (hq_15.r 6 4 (by decide) (by decide)))).trans (hv_6_4)), by omega, by omega, by omega, by omega, by omega, by omega, by omega, by omega, by omega, by omega, by omega, by omega, by omega⟩) hB_G_31 hW hS (lv_sub hl [0, 1, 2, 3] rfl)
  · skip
    refine lv_aload_n hx hb dL_law_859 rfl (lv_at hl 1 rfl) ?_
    refine lv_aload_n hx hb dL_law_860 rfl (lv_at hl 0 rfl) ?_
    refine lv_iload_n hx hb dL_law_861 rfl (lv_at hl 3 rfl) ?_
    refine lv_iconst (v := 1) hx hb dL_law_862 (by decide) ?_
    refine lv_iadd hx hb dL_law_863 ?_
    refine lv_topi (fun y_1 ey_1 => ?_)
    have ty_1 : y_1.toInt = i0.toInt + 1 := xI_add rfl rfl ey_1 (by omega) (by omega)
    refine va_sld hx hb hX hbl hbA hS (vin (by omega) (by omega)) dL_law_864 ?_
    refine lv_topi (fun y_2 ey_2 => ?_)
    have u_3 : y_2.toInt = (xs (i0 + 1).toNatClampNeg).toInt := by rw [ey_2, ey_1]
    refine lv_aload_n hx hb dL_law_865 rfl (lv_at hl 0 rfl) ?_
    refine lv_iload_n hx hb dL_law_866 rfl (lv_at hl 3 rfl) ?_
    refine lv_iconst (v := 2) hx hb dL_law_867 (by decide) ?_
    refine lv_iadd hx hb dL_law_868 ?_
    refine lv_topi (fun y_4 ey_4 => ?_)
    have ty_4 : y_4.toInt = i0.toInt + 2 := xI_add rfl rfl ey_4 (by omega) (by omega)
    refine va_sld hx hb hX hbl hbA hS (vin (by omega) (by omega)) dL_law_869 ?_
    refine lv_topi (fun y_5 ey_5 => ?_)
    have u_6 : y_5.toInt = (xs (i0 + 2).toNatClampNeg).toInt := by rw [ey_5, ey_4]
    refine lv_aload_n hx hb dL_law_870 rfl (lv_at hl 0 rfl) ?_
    refine lv_iload_n hx hb dL_law_871 rfl (lv_at hl 3 rfl) ?_
    refine lv_iconst (v := 3) hx hb dL_law_872 (by decide) ?_
    refine lv_iadd hx hb dL_law_873 ?_
    refine lv_topi (fun y_7 ey_7 => ?_)
    have ty_7 : y_7.toInt = i0.toInt + 3 := xI_add rfl rfl ey_7 (by omega) (by omega)
    refine va_sld hx hb hX hbl hbA hS (vin (by omega) (by omega)) dL_law_874 ?_
    refine lv_topi (fun y_8 ey_8 => ?_)
    have u_9 : y_8.toInt = (xs (i0 + 3).toNatClampNeg).toInt := by rw [ey_8, ey_7]
    refine lv_aload_n hx hb dL_law_875 rfl (lv_at hl 0 rfl) ?_
    refine lv_iload_n hx hb dL_law_876 rfl (lv_at hl 3 rfl) ?_
    refine lv_iconst (v := 4) hx hb dL_law_877 (by decide) ?_
    refine lv_iadd hx hb dL_law_878 ?_
    refine lv_topi (fun y_10 ey_10 => ?_)
    have ty_10 : y_10.toInt = i0.toInt + 4 := xI_add rfl rfl ey_10 (by omega) (by omega)
    refine va_sld hx hb hX hbl hbA hS (vin (by omega) (by omega)) dL_law_879 ?_
    refine lv_topi (fun y_11 ey_11 => ?_)
    have u_12 : y_11.toInt = (xs (i0 + 4).toNatClampNeg).toInt := by rw [ey_11, ey_10]
    refine S_calli (va_runV (As := [.int y_2, .int y_5, .int y_8, .int y_11]) (rest := []) ⟨hx, hb, hml, hown, hts⟩ (k_Wbegin l D k A a z G y_2 y_5 y_8 y_11 ) (cwV 4 hts (gd_V hgd m1072 m1073 m1074 m117 m1075) rfl rfl rfl (by decide +kernel) ⟨Nat.le_of_ble_eq_true rfl, Nat.le_of_ble_eq_true rfl⟩) (pre_V hW hB_G hK hZ hS kd_0 rfl) rfl rfl hl.1 rfl (lv_room (Nat.le_of_ble_eq_true rfl)) dL_law_880 ⟨Nat.le_of_ble_eq_true rfl, Nat.le_of_ble_eq_true rfl⟩) hS (fun r_13 G_14 H locs hpo hW hS => ?_)
    have hX_17 : P_Wbegin y_2 y_5 y_8 y_11 G r_13 G_14 := hpo
    obtain ⟨hB_G_14, hq_15, -⟩ := hpo
    refine lv_pop hx hb dL_law_883 rfl ?_
    refine lv_aload_n hx hb dL_law_884 rfl (lv_at hl 2 rfl) ?_
    refine lv_aload_n hx hb dL_law_885 rfl (lv_at hl 0 rfl) ?_
    refine lv_iload_n hx hb dL_law_886 rfl (lv_at hl 3 rfl) ?_
    refine lv_iconst (v := 1) hx hb dL_law_887 (by decide) ?_
    refine lv_iadd hx hb dL_law_888 ?_
    refine lv_topi (fun y_18 ey_18 => ?_)
    have ty_18 : y_18.toInt = i0.toInt + 1 := xI_add rfl rfl ey_18 (by omega) (by omega)
    refine va_sld hx hb hX hbl hbA hS (vin (by omega) (by omega)) dL_law_889 ?_
    refine lv_topi (fun y_19 ey_19 => ?_)
    have u_20 : y_19.toInt = (xs (i0 + 1).toNatClampNeg).toInt := by rw [ey_19, ey_18]
    refine lv_aload_n hx hb dL_law_890 rfl (lv_at hl 0 rfl) ?_
    refine lv_iload_n hx hb dL_law_891 rfl (lv_at hl 3 rfl) ?_
    refine lv_iconst (v := 2) hx hb dL_law_892 (by decide) ?_
    refine lv_iadd hx hb dL_law_893 ?_
    refine lv_topi (fun y_21 ey_21 => ?_)
    have ty_21 : y_21.toInt = i0.toInt + 2 := xI_add rfl rfl ey_21 (by omega) (by omega)
    refine va_sld hx hb hX hbl hbA hS (vin (by omega) (by omega)) dL_law_894 ?_
    refine lv_topi (fun y_22 ey_22 => ?_)
    have u_23 : y_22.toInt = (xs (i0 + 2).toNatClampNeg).toInt := by rw [ey_22, ey_21]
    refine lv_aload_n hx hb dL_law_895 rfl (lv_at hl 0 rfl) ?_
    refine lv_iload_n hx hb dL_law_896 rfl (lv_at hl 3 rfl) ?_
    refine lv_iconst (v := 3) hx hb dL_law_897 (by decide) ?_
    refine lv_iadd hx hb dL_law_898 ?_
    refine lv_topi (fun y_24 ey_24 => ?_)
    have ty_24 : y_24.toInt = i0.toInt + 3 := xI_add rfl rfl ey_24 (by omega) (by omega)
    refine va_sld hx hb hX hbl hbA hS (vin (by omega) (by omega)) dL_law_899 ?_
    refine lv_topi (fun y_25 ey_25 => ?_)
    have u_26 : y_25.toInt = (xs (i0 + 3).toNatClampNeg).toInt := by rw [ey_25, ey_24]
    refine lv_aload_n hx hb dL_law_900 rfl (lv_at hl 0 rfl) ?_
    refine lv_iload_n hx hb dL_law_901 rfl (lv_at hl 3 rfl) ?_
    refine lv_iconst (v := 4) hx hb dL_law_902 (by decide) ?_
    refine lv_iadd hx hb dL_law_903 ?_
    refine lv_topi (fun y_27 ey_27 => ?_)
    have ty_27 : y_27.toInt = i0.toInt + 4 := xI_add rfl rfl ey_27 (by omega) (by omega)
    refine va_sld hx hb hX hbl hbA hS (vin (by omega) (by omega)) dL_law_904 ?_
    refine lv_topi (fun y_28 ey_28 => ?_)
    have u_29 : y_28.toInt = (xs (i0 + 4).toNatClampNeg).toInt := by rw [ey_28, ey_27]
    refine S_calli (va_runV (As := [.int y_19, .int y_22, .int y_25, .int y_28]) (rest := []) ⟨hx, hb, hml, hown, hts⟩ (n_begin l D k A a z G_14 y_19 y_22 y_25 y_28 ) (cwV 4 hts (gd_V hgd m1916 m1917 m1918 m131 m1919) rfl rfl rfl (by decide +kernel) ⟨Nat.le_of_ble_eq_true rfl, Nat.le_of_ble_eq_true rfl⟩) (pre_V hW hB_G_14 hK hZ hS kd_66 rfl) rfl rfl hl.1 rfl (lv_room (Nat.le_of_ble_eq_true rfl)) dL_law_905 ⟨Nat.le_of_ble_eq_true rfl, Nat.le_of_ble_eq_true rfl⟩) hS (fun r_30 G_31 H locs hpo hW hS => ?_)
    have hX_34 : Q_begin y_19 y_22 y_25 y_28 G_14 r_30 G_31 := hpo
    obtain ⟨hB_G_31, hq_32, -⟩ := hpo
    refine lv_pop hx hb dL_law_908 rfl ?_
    refine lv_goto (tgt := 1641) hx hb dL_law_909 (by decide) ?_
    have g_35 : gIB G_31 = gIB G := gIB_fr (rs := []) (fs := []) ((Fr.rf.call hq_15 (by decide) (by decide)).call hq_32 (by decide) (by decide)) (by decide) (by decide)
    have g_36 : gO G_31 = gO G := gO_fr (rs := []) (fs := []) ((Fr.rf.call hq_15 (by decide) (by decide)).call hq_32 (by decide) (by decide)) (by decide) (by decide)
    have g_37 : gP G_31 = gP G := gP_fr (rs := []) (fs := []) ((Fr.rf.call hq_15 (by decide) (by decide)).call hq_32 (by decide) (by decide)) (by decide) (by decide)
    have g_38 : gS G_31 = gS G := gS_fr (rs := []) (fs := []) ((Fr.rf.call hq_15 (by decide) (by decide)).call hq_32 (by decide) (by decide)) (by decide) (by decide)
    have g_39 : gTE G_31 = gTE G := gTE_fr (rs := []) (fs := []) ((Fr.rf.call hq_15 (by decide) (by decide)).call hq_32 (by decide) (by decide)) (by decide) (by decide)
    have g_40 : gW G_31 = gW G := gW_fr (rs := []) (fs := []) ((Fr.rf.call hq_15 (by decide) (by decide)).call hq_32 (by decide) (by decide)) (by decide) (by decide)
    have b_41 : 0 ≤ (G.1 0 11).toInt ∧ (G.1 0 11).toInt ≤ 1600 := hB_G.i 0 11 rfl rfl
    have g_42 : (G_31.1 0 11).toInt = (G.1 0 11).toInt := by rw [show G_31.1 0 11 = (G.1 0 11) from ((hq_32.i 0 11 (by decide) (by decide)).trans (hq_15.i 0 11 (by decide) (by decide)))]
    have b_43 : 0 ≤ (G.1 3 7).toInt ∧ (G.1 3 7).toInt ≤ 4 := hB_G.i 3 7 rfl rfl
    have g_44 : (G_31.1 3 7).toInt = (G.1 3 7).toInt := by rw [show G_31.1 3 7 = (G.1 3 7) from ((hq_32.i 3 7 (by decide) (by decide)).trans (hq_15.i 3 7 (by decide) (by decide)))]
    have b_45 : (-1) ≤ (G.1 3 8).toInt ∧ (G.1 3 8).toInt ≤ 1600 := hB_G.i 3 8 rfl rfl
    have g_46 : (G_31.1 3 8).toInt = (G.1 3 8).toInt := by rw [show G_31.1 3 8 = (G.1 3 8) from ((hq_32.i 3 8 (by decide) (by decide)).trans (hq_15.i 3 8 (by decide) (by decide)))]
    have b_47 : 0 ≤ (G.1 30 4).toInt ∧ (G.1 30 4).toInt ≤ 40 := hB_G.i 30 4 rfl rfl
    have g_48 : (G_31.1 30 4).toInt = (G.1 30 4).toInt := by rw [show G_31.1 30 4 = (G.1 30 4) from ((hq_32.i 30 4 (by decide) (by decide)).trans (hq_15.i 30 4 (by decide) (by decide)))]
    have b_49 : 0 ≤ (G.1 30 5).toInt ∧ (G.1 30 5).toInt ≤ 40 := hB_G.i 30 5 rfl rfl
    have g_50 : (G_31.1 30 5).toInt = (G.1 30 5).toInt := by rw [show G_31.1 30 5 = (G.1 30 5) from ((hq_32.i 30 5 (by decide) (by decide)).trans (hq_15.i 30 5 (by decide) (by decide)))]
    have b_51 : 0 ≤ (G.1 31 6).toInt ∧ (G.1 31 6).toInt ≤ 100000 := hB_G.i 31 6 rfl rfl
    have g_52 : (G_31.1 31 6).toInt = (G.1 31 6).toInt := by rw [show G_31.1 31 6 = (G.1 31 6) from ((hq_32.i 31 6 (by decide) (by decide)).trans (hq_15.i 31 6 (by decide) (by decide)))]
    have b_53 : 0 ≤ (G.1 66 1).toInt ∧ (G.1 66 1).toInt ≤ 1600 := hB_G.i 66 1 rfl rfl
    have g_54 : (G_31.1 66 1).toInt = (G.1 66 1).toInt := by rw [show G_31.1 66 1 = (G.1 66 1) from ((hq_32.i 66 1 (by decide) (by decide)).trans (hq_15.i 66 1 (by decide) (by decide)))]
    have b_55 : 0 ≤ (G.1 66 2).toInt ∧ (G.1 66 2).toInt ≤ 4 := hB_G.i 66 2 rfl rfl
    have g_56 : (G_31.1 66 2).toInt = (G.1 66 2).toInt := by rw [show G_31.1 66 2 = (G.1 66 2) from ((hq_32.i 66 2 (by decide) (by decide)).trans (hq_15.i 66 2 (by decide) (by decide)))]
    have b_57 : (-1) ≤ (G.1 66 3).toInt ∧ (G.1 66 3).toInt ≤ 1600 := hB_G.i 66 3 rfl rfl
    have g_58 : (G_31.1 66 3).toInt = (G.1 66 3).toInt := by rw [show G_31.1 66 3 = (G.1 66 3) from ((hq_32.i 66 3 (by decide) (by decide)).trans (hq_15.i 66 3 (by decide) (by decide)))]
    have b_59 : 0 ≤ (G.1 66 78).toInt ∧ (G.1 66 78).toInt ≤ 40 := hB_G.i 66 78 rfl rfl
    have g_60 : (G_31.1 66 78).toInt = (G.1 66 78).toInt := by rw [show G_31.1 66 78 = (G.1 66 78) from ((hq_32.i 66 78 (by decide) (by decide)).trans (hq_15.i 66 78 (by decide) (by decide)))]
    have b_61 : 0 ≤ (G.1 66 79).toInt ∧ (G.1 66 79).toInt ≤ 40 := hB_G.i 66 79 rfl rfl
    have g_62 : (G_31.1 66 79).toInt = (G.1 66 79).toInt := by rw [show G_31.1 66 79 = (G.1 66 79) from ((hq_32.i 66 79 (by decide) (by decide)).trans (hq_15.i 66 79 (by decide) (by decide)))]
    have b_63 : 0 ≤ (G.1 66 86).toInt ∧ (G.1 66 86).toInt ≤ 100000 := hB_G.i 66 86 rfl rfl
    have g_64 : (G_31.1 66 86).toInt = (G.1 66 86).toInt := by rw [show G_31.1 66 86 = (G.1 66 86) from ((hq_32.i 66 86 (by decide) (by decide)).trans (hq_15.i 66 86 (by decide) (by decide)))]
    have b_65 : 0 ≤ (G.1 96 0).toInt ∧ (G.1 96 0).toInt ≤ 9 := hB_G.i 96 0 rfl rfl
    have g_66 : (G_31.1 96 0).toInt = (G.1 96 0).toInt := by rw [show G_31.1 96 0 = (G.1 96 0) from ((hq_32.i 96 0 (by decide) (by decide)).trans (hq_15.i 96 0 (by decide) (by decide)))]
    have b_67 : 0 ≤ (G.1 96 1).toInt ∧ (G.1 96 1).toInt ≤ 9 := hB_G.i 96 1 rfl rfl
    have g_68 : (G_31.1 96 1).toInt = (G.1 96 1).toInt := by rw [show G_31.1 96 1 = (G.1 96 1) from ((hq_32.i 96 1 (by decide) (by decide)).trans (hq_15.i 96 1 (by decide) (by decide)))]
    have b_69 : 0 ≤ (G.1 96 2).toInt ∧ (G.1 96 2).toInt ≤ 9 := hB_G.i 96 2 rfl rfl
    have g_70 : (G_31.1 96 2).toInt = (G.1 96 2).toInt := by rw [show G_31.1 96 2 = (G.1 96 2) from ((hq_32.i 96 2 (by decide) (by decide)).trans (hq_15.i 96 2 (by decide) (by decide)))]
    exact K G_31 _ _ _ (Or.inr ⟨((((hq_32.r 0 0 (by decide) (by decide)).trans (hq_15.r 0 0 (by decide) (by decide)))).trans (hv_0_0)), ((((hq_32.r 0 1 (by decide) (by decide)).trans (hq_15.r 0 1 (by decide) (by decide)))).trans (hv_0_1)), ((((hq_32.r 6 4 (by decide) (by decide)).trans (hq_15.r 6 4 (by decide) (by decide)))).trans (hv_6_4)), by omega, by omega, by omega, by omega, by omega, by omega, by omega, by omega, by omega, by omega, by omega, by omega, by omega⟩) hB_G_31 hW hS (lv_sub hl [0, 1, 2, 3] rfl)

set_option maxHeartbeats 4000000 in
set_option maxRecDepth 100000 in
theorem law_16 {p : Program} {l : Launch} {e : Env} {s : State} {m : MethodId} {below : List Frame} {meth : Method} {c : Code} {D : va_G} {k : KT} {A : Nat → Prop} {a : Nat → Nat} {z : SK} {b L : Nat} {xs : Nat → Int32} (hL : L ≤ 3072) (C0 : lw_At p s m meth c b L xs) (hK : cK D k s) (hZ : Sx A z s) (hbA : ¬ A b) {G : GS} {i0 : Int32} (hi0 : 0 ≤ i0.toInt) (hi6 : i0.toInt + 6 ≤ L) (hI : LI G) (hB_G : Bd G) {H : Heap} {locs : List Loc} {ls : Array Slot} (hW : Wd D k A a G H) (hS : va_S A s.heap H locs) (hl : lv_has ls 4 [(0, .ref b), (1, .ref (a 0)), (2, .ref (a 66)), (3, .int i0)]) (K : ∀ (G1 : GS) (H1 : Heap) (locs1 : List Loc) (ls1 : Array Slot), LI G1 → Bd G1 → Wd D k A a G1 H1 → va_S A s.heap H1 locs1 → lv_has ls1 4 [(0, .ref b), (1, .ref (a 0)), (2, .ref (a 66)), (3, .int i0)] → W p l e room_1 s m #[Value.ref b] below meth c H1 locs1 119 46443 (lw_Z below #[Value.ref b] s) (F0 m 1641 ls1 [])) : W p l e room_1 s m #[Value.ref b] below meth c H locs 119 46443 (lw_Z below #[Value.ref b] s) (F0 m 912 ls []) := by
  obtain ⟨hx, hb, hr, hml, hown, hts, hX, hbl, hlocks, hgv⟩ := id C0
  have hown : s.vm.findClass RL = some m.cls := hown
  have hgd : ∀ w ∈ gd, w ∈ lw_tbl := fun w h => (List.mem_filter.mp h).1
  have hg : ∀ w ∈ gd, w.before #[Value.ref b] s = true := fun w h => hts w (hgd w h)
  rcases hI with ⟨hv_0_0, hv_0_1, hv_6_4, hj0, hj1, hj2, hj3, hj4, hj5, hj6, hj7, hj8, hj9, hj10, hj11⟩ | ⟨hv_0_0, hv_0_1, hv_6_4, hj0, hj1, hj2, hj3, hj4, hj5, hj6, hj7, hj8, hj9, hj10, hj11⟩
  · skip
    refine lv_aload_n hx hb dL_law_912 rfl (lv_at hl 1 rfl) ?_
    refine lv_aload_n hx hb dL_law_913 rfl (lv_at hl 0 rfl) ?_
    refine lv_iload_n hx hb dL_law_914 rfl (lv_at hl 3 rfl) ?_
    refine lv_iconst (v := 1) hx hb dL_law_915 (by decide) ?_
    refine lv_iadd hx hb dL_law_916 ?_
    refine lv_topi (fun y_1 ey_1 => ?_)
    have ty_1 : y_1.toInt = i0.toInt + 1 := xI_add rfl rfl ey_1 (by omega) (by omega)
    refine va_sld hx hb hX hbl hbA hS (vin (by omega) (by omega)) dL_law_917 ?_
    refine lv_topi (fun y_2 ey_2 => ?_)
    have u_3 : y_2.toInt = (xs (i0 + 1).toNatClampNeg).toInt := by rw [ey_2, ey_1]
    refine lv_aload_n hx hb dL_law_918 rfl (lv_at hl 0 rfl) ?_
    refine lv_iload_n hx hb dL_law_919 rfl (lv_at hl 3 rfl) ?_
    refine lv_iconst (v := 2) hx hb dL_law_920 (by decide) ?_
    refine lv_iadd hx hb dL_law_921 ?_
    refine lv_topi (fun y_4 ey_4 => ?_)
    have ty_4 : y_4.toInt = i0.toInt + 2 := xI_add rfl rfl ey_4 (by omega) (by omega)
    refine va_sld hx hb hX hbl hbA hS (vin (by omega) (by omega)) dL_law_922 ?_
    refine lv_topi (fun y_5 ey_5 => ?_)
    have u_6 : y_5.toInt = (xs (i0 + 2).toNatClampNeg).toInt := by rw [ey_5, ey_4]
    refine lv_aload_n hx hb dL_law_923 rfl (lv_at hl 0 rfl) ?_
    refine lv_iload_n hx hb dL_law_924 rfl (lv_at hl 3 rfl) ?_
    refine lv_iconst (v := 3) hx hb dL_law_925 (by decide) ?_
    refine lv_iadd hx hb dL_law_926 ?_
    refine lv_topi (fun y_7 ey_7 => ?_)
    have ty_7 : y_7.toInt = i0.toInt + 3 := xI_add rfl rfl ey_7 (by omega) (by omega)
    refine va_sld hx hb hX hbl hbA hS (vin (by omega) (by omega)) dL_law_927 ?_
    refine lv_topi (fun y_8 ey_8 => ?_)
    have u_9 : y_8.toInt = (xs (i0 + 3).toNatClampNeg).toInt := by rw [ey_8, ey_7]
    refine lv_aload_n hx hb dL_law_928 rfl (lv_at hl 0 rfl) ?_
    refine lv_iload_n hx hb dL_law_929 rfl (lv_at hl 3 rfl) ?_
    refine lv_iconst (v := 4) hx hb dL_law_930 (by decide) ?_
    refine lv_iadd hx hb dL_law_931 ?_
    refine lv_topi (fun y_10 ey_10 => ?_)
    have ty_10 : y_10.toInt = i0.toInt + 4 := xI_add rfl rfl ey_10 (by omega) (by omega)
    refine va_sld hx hb hX hbl hbA hS (vin (by omega) (by omega)) dL_law_932 ?_
    refine lv_topi (fun y_11 ey_11 => ?_)
    have u_12 : y_11.toInt = (xs (i0 + 4).toNatClampNeg).toInt := by rw [ey_11, ey_10]
    refine lv_aload_n hx hb dL_law_933 rfl (lv_at hl 0 rfl) ?_
    refine lv_iload_n hx hb dL_law_934 rfl (lv_at hl 3 rfl) ?_
    refine lv_iconst (v := 5) hx hb dL_law_935 (by decide) ?_
    refine lv_iadd hx hb dL_law_936 ?_
    refine lv_topi (fun y_13 ey_13 => ?_)
    have ty_13 : y_13.toInt = i0.toInt + 5 := xI_add rfl rfl ey_13 (by omega) (by omega)
    refine va_sld hx hb hX hbl hbA hS (vin (by omega) (by omega)) dL_law_937 ?_
    refine lv_topi (fun y_14 ey_14 => ?_)
    have u_15 : y_14.toInt = (xs (i0 + 5).toNatClampNeg).toInt := by rw [ey_14, ey_13]
    refine S_calll (va_runV (As := [.int y_2, .int y_5, .int y_8, .int y_11, .int y_14]) (rest := []) ⟨hx, hb, hml, hown, hts⟩ (k_Wsuits l D k A a z G y_2 y_5 y_8 y_11 y_14 ) (cwV 5 hts (gd_V hgd m1083 m1084 m1085 m117 m1086) rfl rfl rfl (by decide +kernel) ⟨Nat.le_of_ble_eq_true rfl, Nat.le_of_ble_eq_true rfl⟩) (pre_V hW hB_G hK hZ hS kd_0 rfl) rfl rfl hl.1 rfl (lv_room (Nat.le_of_ble_eq_true rfl)) dL_law_938 ⟨Nat.le_of_ble_eq_true rfl, Nat.le_of_ble_eq_true rfl⟩) hS (fun r_16 G_17 H locs hpo hW hS => ?_)
    have hX_20 : P_Wsuits y_2 y_5 y_8 y_11 y_14 G r_16 G_17 := hpo
    obtain ⟨hB_G_17, hq_18, -⟩ := hpo
    refine lv_pop2_2 hx hb dL_law_941 rfl ?_
    refine lv_aload_n hx hb dL_law_942 rfl (lv_at hl 2 rfl) ?_
    refine lv_aload_n hx hb dL_law_943 rfl (lv_at hl 0 rfl) ?_
    refine lv_iload_n hx hb dL_law_944 rfl (lv_at hl 3 rfl) ?_
    refine lv_iconst (v := 1) hx hb dL_law_945 (by decide) ?_
    refine lv_iadd hx hb dL_law_946 ?_
    refine lv_topi (fun y_21 ey_21 => ?_)
    have ty_21 : y_21.toInt = i0.toInt + 1 := xI_add rfl rfl ey_21 (by omega) (by omega)
    refine va_sld hx hb hX hbl hbA hS (vin (by omega) (by omega)) dL_law_947 ?_
    refine lv_topi (fun y_22 ey_22 => ?_)
    have u_23 : y_22.toInt = (xs (i0 + 1).toNatClampNeg).toInt := by rw [ey_22, ey_21]
    refine lv_aload_n hx hb dL_law_948 rfl (lv_at hl 0 rfl) ?_
    refine lv_iload_n hx hb dL_law_949 rfl (lv_at hl 3 rfl) ?_
    refine lv_iconst (v := 2) hx hb dL_law_950 (by decide) ?_
    refine lv_iadd hx hb dL_law_951 ?_
    refine lv_topi (fun y_24 ey_24 => ?_)
    have ty_24 : y_24.toInt = i0.toInt + 2 := xI_add rfl rfl ey_24 (by omega) (by omega)
    refine va_sld hx hb hX hbl hbA hS (vin (by omega) (by omega)) dL_law_952 ?_
    refine lv_topi (fun y_25 ey_25 => ?_)
    have u_26 : y_25.toInt = (xs (i0 + 2).toNatClampNeg).toInt := by rw [ey_25, ey_24]
    refine lv_aload_n hx hb dL_law_953 rfl (lv_at hl 0 rfl) ?_
    refine lv_iload_n hx hb dL_law_954 rfl (lv_at hl 3 rfl) ?_
    refine lv_iconst (v := 3) hx hb dL_law_955 (by decide) ?_
    refine lv_iadd hx hb dL_law_956 ?_
    refine lv_topi (fun y_27 ey_27 => ?_)
    have ty_27 : y_27.toInt = i0.toInt + 3 := xI_add rfl rfl ey_27 (by omega) (by omega)
    refine va_sld hx hb hX hbl hbA hS (vin (by omega) (by omega)) dL_law_957 ?_
    refine lv_topi (fun y_28 ey_28 => ?_)
    have u_29 : y_28.toInt = (xs (i0 + 3).toNatClampNeg).toInt := by rw [ey_28, ey_27]
    refine lv_aload_n hx hb dL_law_958 rfl (lv_at hl 0 rfl) ?_
    refine lv_iload_n hx hb dL_law_959 rfl (lv_at hl 3 rfl) ?_
    refine lv_iconst (v := 4) hx hb dL_law_960 (by decide) ?_
    refine lv_iadd hx hb dL_law_961 ?_
    refine lv_topi (fun y_30 ey_30 => ?_)
    have ty_30 : y_30.toInt = i0.toInt + 4 := xI_add rfl rfl ey_30 (by omega) (by omega)
    refine va_sld hx hb hX hbl hbA hS (vin (by omega) (by omega)) dL_law_962 ?_
    refine lv_topi (fun y_31 ey_31 => ?_)
    have u_32 : y_31.toInt = (xs (i0 + 4).toNatClampNeg).toInt := by rw [ey_31, ey_30]
    refine lv_aload_n hx hb dL_law_963 rfl (lv_at hl 0 rfl) ?_
    refine lv_iload_n hx hb dL_law_964 rfl (lv_at hl 3 rfl) ?_
    refine lv_iconst (v := 5) hx hb dL_law_965 (by decide) ?_
    refine lv_iadd hx hb dL_law_966 ?_
    refine lv_topi (fun y_33 ey_33 => ?_)
    have ty_33 : y_33.toInt = i0.toInt + 5 := xI_add rfl rfl ey_33 (by omega) (by omega)
    refine va_sld hx hb hX hbl hbA hS (vin (by omega) (by omega)) dL_law_967 ?_
    refine lv_topi (fun y_34 ey_34 => ?_)
    have u_35 : y_34.toInt = (xs (i0 + 5).toNatClampNeg).toInt := by rw [ey_34, ey_33]
    refine S_calll (va_runV (As := [.int y_22, .int y_25, .int y_28, .int y_31, .int y_34]) (rest := []) ⟨hx, hb, hml, hown, hts⟩ (n_suits l D k A a z G_17 y_22 y_25 y_28 y_31 y_34 ) (cwV 5 hts (gd_V hgd m1923 m1924 m1925 m131 m1926) rfl rfl rfl (by decide +kernel) ⟨Nat.le_of_ble_eq_true rfl, Nat.le_of_ble_eq_true rfl⟩) (pre_V hW hB_G_17 hK hZ hS kd_66 rfl) rfl rfl hl.1 rfl (lv_room (Nat.le_of_ble_eq_true rfl)) dL_law_968 ⟨Nat.le_of_ble_eq_true rfl, Nat.le_of_ble_eq_true rfl⟩) hS (fun r_36 G_37 H locs hpo hW hS => ?_)
    have hX_40 : Q_suits y_22 y_25 y_28 y_31 y_34 G_17 r_36 G_37 := hpo
    obtain ⟨hB_G_37, hq_38, -⟩ := hpo
    refine lv_pop2_2 hx hb dL_law_971 rfl ?_
    refine lv_goto (tgt := 1641) hx hb dL_law_972 (by decide) ?_
    have g_41 : gIA G_37 = gIA G := gIA_fr (rs := []) (fs := []) ((Fr.rf.call hq_18 (by decide) (by decide)).call hq_38 (by decide) (by decide)) (by decide) (by decide)
    have g_42 : gO G_37 = gO G := gO_fr (rs := []) (fs := []) ((Fr.rf.call hq_18 (by decide) (by decide)).call hq_38 (by decide) (by decide)) (by decide) (by decide)
    have g_43 : gP G_37 = gP G := gP_fr (rs := []) (fs := []) ((Fr.rf.call hq_18 (by decide) (by decide)).call hq_38 (by decide) (by decide)) (by decide) (by decide)
    have g_44 : gS G_37 = gS G := gS_fr (rs := []) (fs := []) ((Fr.rf.call hq_18 (by decide) (by decide)).call hq_38 (by decide) (by decide)) (by decide) (by decide)
    have g_45 : gTE G_37 = gTE G := gTE_fr (rs := []) (fs := []) ((Fr.rf.call hq_18 (by decide) (by decide)).call hq_38 (by decide) (by decide)) (by decide) (by decide)
    have g_46 : gW G_37 = gW G := gW_fr (rs := []) (fs := []) ((Fr.rf.call hq_18 (by decide) (by decide)).call hq_38 (by decide) (by decide)) (by decide) (by decide)
    have b_47 : 0 ≤ (G.1 0 11).toInt ∧ (G.1 0 11).toInt ≤ 1600 := hB_G.i 0 11 rfl rfl
    have g_48 : (G_37.1 0 11).toInt = (G.1 0 11).toInt := by rw [show G_37.1 0 11 = (G.1 0 11) from ((hq_38.i 0 11 (by decide) (by decide)).trans (hq_18.i 0 11 (by decide) (by decide)))]
    have b_49 : 0 ≤ (G.1 3 7).toInt ∧ (G.1 3 7).toInt ≤ 4 := hB_G.i 3 7 rfl rfl
    have g_50 : (G_37.1 3 7).toInt = (G.1 3 7).toInt := by rw [show G_37.1 3 7 = (G.1 3 7) from ((hq_38.i 3 7 (by decide) (by decide)).trans (hq_18.i 3 7 (by decide) (by decide)))]
    have b_51 : (-1) ≤ (G.1 3 8).toInt ∧ (G.1 3 8).toInt ≤ 1600 := hB_G.i 3 8 rfl rfl
    have g_52 : (G_37.1 3 8).toInt = (G.1 3 8).toInt := by rw [show G_37.1 3 8 = (G.1 3 8) from ((hq_38.i 3 8 (by decide) (by decide)).trans (hq_18.i 3 8 (by decide) (by decide)))]
    have b_53 : 0 ≤ (G.1 30 4).toInt ∧ (G.1 30 4).toInt ≤ 40 := hB_G.i 30 4 rfl rfl
    have g_54 : (G_37.1 30 4).toInt = (G.1 30 4).toInt := by rw [show G_37.1 30 4 = (G.1 30 4) from ((hq_38.i 30 4 (by decide) (by decide)).trans (hq_18.i 30 4 (by decide) (by decide)))]
    have b_55 : 0 ≤ (G.1 30 5).toInt ∧ (G.1 30 5).toInt ≤ 40 := hB_G.i 30 5 rfl rfl
    have g_56 : (G_37.1 30 5).toInt = (G.1 30 5).toInt := by rw [show G_37.1 30 5 = (G.1 30 5) from ((hq_38.i 30 5 (by decide) (by decide)).trans (hq_18.i 30 5 (by decide) (by decide)))]
    have b_57 : 0 ≤ (G.1 31 6).toInt ∧ (G.1 31 6).toInt ≤ 100000 := hB_G.i 31 6 rfl rfl
    have g_58 : (G_37.1 31 6).toInt = (G.1 31 6).toInt := by rw [show G_37.1 31 6 = (G.1 31 6) from ((hq_38.i 31 6 (by decide) (by decide)).trans (hq_18.i 31 6 (by decide) (by decide)))]
    have b_59 : 0 ≤ (G.1 66 1).toInt ∧ (G.1 66 1).toInt ≤ 1600 := hB_G.i 66 1 rfl rfl
    have g_60 : (G_37.1 66 1).toInt = (G.1 66 1).toInt := by rw [show G_37.1 66 1 = (G.1 66 1) from ((hq_38.i 66 1 (by decide) (by decide)).trans (hq_18.i 66 1 (by decide) (by decide)))]
    have b_61 : 0 ≤ (G.1 66 2).toInt ∧ (G.1 66 2).toInt ≤ 4 := hB_G.i 66 2 rfl rfl
    have g_62 : (G_37.1 66 2).toInt = (G.1 66 2).toInt := by rw [show G_37.1 66 2 = (G.1 66 2) from ((hq_38.i 66 2 (by decide) (by decide)).trans (hq_18.i 66 2 (by decide) (by decide)))]
    have b_63 : (-1) ≤ (G.1 66 3).toInt ∧ (G.1 66 3).toInt ≤ 1600 := hB_G.i 66 3 rfl rfl
    have g_64 : (G_37.1 66 3).toInt = (G.1 66 3).toInt := by rw [show G_37.1 66 3 = (G.1 66 3) from ((hq_38.i 66 3 (by decide) (by decide)).trans (hq_18.i 66 3 (by decide) (by decide)))]
    have b_65 : 0 ≤ (G.1 66 78).toInt ∧ (G.1 66 78).toInt ≤ 40 := hB_G.i 66 78 rfl rfl
    have g_66 : (G_37.1 66 78).toInt = (G.1 66 78).toInt := by rw [show G_37.1 66 78 = (G.1 66 78) from ((hq_38.i 66 78 (by decide) (by decide)).trans (hq_18.i 66 78 (by decide) (by decide)))]
    have b_67 : 0 ≤ (G.1 66 79).toInt ∧ (G.1 66 79).toInt ≤ 40 := hB_G.i 66 79 rfl rfl
    have g_68 : (G_37.1 66 79).toInt = (G.1 66 79).toInt := by rw [show G_37.1 66 79 = (G.1 66 79) from ((hq_38.i 66 79 (by decide) (by decide)).trans (hq_18.i 66 79 (by decide) (by decide)))]
    have b_69 : 0 ≤ (G.1 66 86).toInt ∧ (G.1 66 86).toInt ≤ 100000 := hB_G.i 66 86 rfl rfl
    have g_70 : (G_37.1 66 86).toInt = (G.1 66 86).toInt := by rw [show G_37.1 66 86 = (G.1 66 86) from ((hq_38.i 66 86 (by decide) (by decide)).trans (hq_18.i 66 86 (by decide) (by decide)))]
    have b_71 : 0 ≤ (G.1 96 0).toInt ∧ (G.1 96 0).toInt ≤ 9 := hB_G.i 96 0 rfl rfl
    have g_72 : (G_37.1 96 0).toInt = (G.1 96 0).toInt := by rw [show G_37.1 96 0 = (G.1 96 0) from ((hq_38.i 96 0 (by decide) (by decide)).trans (hq_18.i 96 0 (by decide) (by decide)))]
    have b_73 : 0 ≤ (G.1 96 1).toInt ∧ (G.1 96 1).toInt ≤ 9 := hB_G.i 96 1 rfl rfl
    have g_74 : (G_37.1 96 1).toInt = (G.1 96 1).toInt := by rw [show G_37.1 96 1 = (G.1 96 1) from ((hq_38.i 96 1 (by decide) (by decide)).trans (hq_18.i 96 1 (by decide) (by decide)))]
    have b_75 : 0 ≤ (G.1 96 2).toInt ∧ (G.1 96 2).toInt ≤ 9 := hB_G.i 96 2 rfl rfl
    have g_76 : (G_37.1 96 2).toInt = (G.1 96 2).toInt := by rw [show G_37.1 96 2 = (G.1 96 2) from ((hq_38.i 96 2 (by decide) (by decide)).trans (hq_18.i 96 2 (by decide) (by decide)))]
    exact K G_37 _ _ _ (Or.inl ⟨((((hq_38.r 0 0 (by decide) (by decide)).trans (hq_18.r 0 0 (by decide) (by decide)))).trans (hv_0_0)), ((((hq_38.r 0 1 (by decide) (by decide)).trans (hq_18.r 0 1 (by decide) (by decide)))).trans (hv_0_1)), ((((hq_38.r 6 4 (by decide) (by decide)).trans (hq_18.r 6 4 (by decide) (by decide)))).trans (hv_6_4)), by omega, by omega, by omega, by omega, by omega, by omega, by omega, by omega, by omega, by omega, by omega, by omega, by omega⟩) hB_G_37 hW hS (lv_sub hl [0, 1, 2, 3] rfl)
  · skip
    refine lv_aload_n hx hb dL_law_912 rfl (lv_at hl 1 rfl) ?_
    refine lv_aload_n hx hb dL_law_913 rfl (lv_at hl 0 rfl) ?_
    refine lv_iload_n hx hb dL_law_914 rfl (lv_at hl 3 rfl) ?_
    refine lv_iconst (v := 1) hx hb dL_law_915 (by decide) ?_
    refine lv_iadd hx hb dL_law_916 ?_
    refine lv_topi (fun y_1 ey_1 => ?_)
    have ty_1 : y_1.toInt = i0.toInt + 1 := xI_add rfl rfl ey_1 (by omega) (by omega)
    refine va_sld hx hb hX hbl hbA hS (vin (by omega) (by omega)) dL_law_917 ?_
    refine lv_topi (fun y_2 ey_2 => ?_)
    have u_3 : y_2.toInt = (xs (i0 + 1).toNatClampNeg).toInt := by rw [ey_2, ey_1]
    refine lv_aload_n hx hb dL_law_918 rfl (lv_at hl 0 rfl) ?_
    refine lv_iload_n hx hb dL_law_919 rfl (lv_at hl 3 rfl) ?_
    refine lv_iconst (v := 2) hx hb dL_law_920 (by decide) ?_
    refine lv_iadd hx hb dL_law_921 ?_
    refine lv_topi (fun y_4 ey_4 => ?_)
    have ty_4 : y_4.toInt = i0.toInt + 2 := xI_add rfl rfl ey_4 (by omega) (by omega)
    refine va_sld hx hb hX hbl hbA hS (vin (by omega) (by omega)) dL_law_922 ?_
    refine lv_topi (fun y_5 ey_5 => ?_)
    have u_6 : y_5.toInt = (xs (i0 + 2).toNatClampNeg).toInt := by rw [ey_5, ey_4]
    refine lv_aload_n hx hb dL_law_923 rfl (lv_at hl 0 rfl) ?_
    refine lv_iload_n hx hb dL_law_924 rfl (lv_at hl 3 rfl) ?_
    refine lv_iconst (v := 3) hx hb dL_law_925 (by decide) ?_
    refine lv_iadd hx hb dL_law_926 ?_
    refine lv_topi (fun y_7 ey_7 => ?_)
    have ty_7 : y_7.toInt = i0.toInt + 3 := xI_add rfl rfl ey_7 (by omega) (by omega)
    refine va_sld hx hb hX hbl hbA hS (vin (by omega) (by omega)) dL_law_927 ?_
    refine lv_topi (fun y_8 ey_8 => ?_)
    have u_9 : y_8.toInt = (xs (i0 + 3).toNatClampNeg).toInt := by rw [ey_8, ey_7]
    refine lv_aload_n hx hb dL_law_928 rfl (lv_at hl 0 rfl) ?_
    refine lv_iload_n hx hb dL_law_929 rfl (lv_at hl 3 rfl) ?_
    refine lv_iconst (v := 4) hx hb dL_law_930 (by decide) ?_
    refine lv_iadd hx hb dL_law_931 ?_
    refine lv_topi (fun y_10 ey_10 => ?_)
    have ty_10 : y_10.toInt = i0.toInt + 4 := xI_add rfl rfl ey_10 (by omega) (by omega)
    refine va_sld hx hb hX hbl hbA hS (vin (by omega) (by omega)) dL_law_932 ?_
    refine lv_topi (fun y_11 ey_11 => ?_)
    have u_12 : y_11.toInt = (xs (i0 + 4).toNatClampNeg).toInt := by rw [ey_11, ey_10]
    refine lv_aload_n hx hb dL_law_933 rfl (lv_at hl 0 rfl) ?_
    refine lv_iload_n hx hb dL_law_934 rfl (lv_at hl 3 rfl) ?_
    refine lv_iconst (v := 5) hx hb dL_law_935 (by decide) ?_
    refine lv_iadd hx hb dL_law_936 ?_
    refine lv_topi (fun y_13 ey_13 => ?_)
    have ty_13 : y_13.toInt = i0.toInt + 5 := xI_add rfl rfl ey_13 (by omega) (by omega)
    refine va_sld hx hb hX hbl hbA hS (vin (by omega) (by omega)) dL_law_937 ?_
    refine lv_topi (fun y_14 ey_14 => ?_)
    have u_15 : y_14.toInt = (xs (i0 + 5).toNatClampNeg).toInt := by rw [ey_14, ey_13]
    refine S_calll (va_runV (As := [.int y_2, .int y_5, .int y_8, .int y_11, .int y_14]) (rest := []) ⟨hx, hb, hml, hown, hts⟩ (k_Wsuits l D k A a z G y_2 y_5 y_8 y_11 y_14 ) (cwV 5 hts (gd_V hgd m1083 m1084 m1085 m117 m1086) rfl rfl rfl (by decide +kernel) ⟨Nat.le_of_ble_eq_true rfl, Nat.le_of_ble_eq_true rfl⟩) (pre_V hW hB_G hK hZ hS kd_0 rfl) rfl rfl hl.1 rfl (lv_room (Nat.le_of_ble_eq_true rfl)) dL_law_938 ⟨Nat.le_of_ble_eq_true rfl, Nat.le_of_ble_eq_true rfl⟩) hS (fun r_16 G_17 H locs hpo hW hS => ?_)
    have hX_20 : P_Wsuits y_2 y_5 y_8 y_11 y_14 G r_16 G_17 := hpo
    obtain ⟨hB_G_17, hq_18, -⟩ := hpo
    refine lv_pop2_2 hx hb dL_law_941 rfl ?_
    refine lv_aload_n hx hb dL_law_942 rfl (lv_at hl 2 rfl) ?_
    refine lv_aload_n hx hb dL_law_943 rfl (lv_at hl 0 rfl) ?_
    refine lv_iload_n hx hb dL_law_944 rfl (lv_at hl 3 rfl) ?_
    refine lv_iconst (v := 1) hx hb dL_law_945 (by decide) ?_
    refine lv_iadd hx hb dL_law_946 ?_
    refine lv_topi (fun y_21 ey_21 => ?_)
    have ty_21 : y_21.toInt = i0.toInt + 1 := xI_add rfl rfl ey_21 (by omega) (by omega)
    refine va_sld hx hb hX hbl hbA hS (vin (by omega) (by omega)) dL_law_947 ?_
    refine lv_topi (fun y_22 ey_22 => ?_)
    have u_23 : y_22.toInt = (xs (i0 + 1).toNatClampNeg).toInt := by rw [ey_22, ey_21]
    refine lv_aload_n hx hb dL_law_948 rfl (lv_at hl 0 rfl) ?_
    refine lv_iload_n hx hb dL_law_949 rfl (lv_at hl 3 rfl) ?_
    refine lv_iconst (v := 2) hx hb dL_law_950 (by decide) ?_
    refine lv_iadd hx hb dL_law_951 ?_
    refine lv_topi (fun y_24 ey_24 => ?_)
    have ty_24 : y_24.toInt = i0.toInt + 2 := xI_add rfl rfl ey_24 (by omega) (by omega)
    refine va_sld hx hb hX hbl hbA hS (vin (by omega) (by omega)) dL_law_952 ?_
    refine lv_topi (fun y_25 ey_25 => ?_)
    have u_26 : y_25.toInt = (xs (i0 + 2).toNatClampNeg).toInt := by rw [ey_25, ey_24]
    refine lv_aload_n hx hb dL_law_953 rfl (lv_at hl 0 rfl) ?_
    refine lv_iload_n hx hb dL_law_954 rfl (lv_at hl 3 rfl) ?_
    refine lv_iconst (v := 3) hx hb dL_law_955 (by decide) ?_
    refine lv_iadd hx hb dL_law_956 ?_
    refine lv_topi (fun y_27 ey_27 => ?_)
    have ty_27 : y_27.toInt = i0.toInt + 3 := xI_add rfl rfl ey_27 (by omega) (by omega)
    refine va_sld hx hb hX hbl hbA hS (vin (by omega) (by omega)) dL_law_957 ?_
    refine lv_topi (fun y_28 ey_28 => ?_)
    have u_29 : y_28.toInt = (xs (i0 + 3).toNatClampNeg).toInt := by rw [ey_28, ey_27]
    refine lv_aload_n hx hb dL_law_958 rfl (lv_at hl 0 rfl) ?_
    refine lv_iload_n hx hb dL_law_959 rfl (lv_at hl 3 rfl) ?_
    refine lv_iconst (v := 4) hx hb dL_law_960 (by decide) ?_
    refine lv_iadd hx hb dL_law_961 ?_
    refine lv_topi (fun y_30 ey_30 => ?_)
    have ty_30 : y_30.toInt = i0.toInt + 4 := xI_add rfl rfl ey_30 (by omega) (by omega)
    refine va_sld hx hb hX hbl hbA hS (vin (by omega) (by omega)) dL_law_962 ?_
    refine lv_topi (fun y_31 ey_31 => ?_)
    have u_32 : y_31.toInt = (xs (i0 + 4).toNatClampNeg).toInt := by rw [ey_31, ey_30]
    refine lv_aload_n hx hb dL_law_963 rfl (lv_at hl 0 rfl) ?_
    refine lv_iload_n hx hb dL_law_964 rfl (lv_at hl 3 rfl) ?_
    refine lv_iconst (v := 5) hx hb dL_law_965 (by decide) ?_
    refine lv_iadd hx hb dL_law_966 ?_
    refine lv_topi (fun y_33 ey_33 => ?_)
    have ty_33 : y_33.toInt = i0.toInt + 5 := xI_add rfl rfl ey_33 (by omega) (by omega)
    refine va_sld hx hb hX hbl hbA hS (vin (by omega) (by omega)) dL_law_967 ?_
    refine lv_topi (fun y_34 ey_34 => ?_)
    have u_35 : y_34.toInt = (xs (i0 + 5).toNatClampNeg).toInt := by rw [ey_34, ey_33]
    refine S_calll (va_runV (As := [.int y_22, .int y_25, .int y_28, .int y_31, .int y_34]) (rest := []) ⟨hx, hb, hml, hown, hts⟩ (n_suits l D k A a z G_17 y_22 y_25 y_28 y_31 y_34 ) (cwV 5 hts (gd_V hgd m1923 m1924 m1925 m131 m1926) rfl rfl rfl (by decide +kernel) ⟨Nat.le_of_ble_eq_true rfl, Nat.le_of_ble_eq_true rfl⟩) (pre_V hW hB_G_17 hK hZ hS kd_66 rfl) rfl rfl hl.1 rfl (lv_room (Nat.le_of_ble_eq_true rfl)) dL_law_968 ⟨Nat.le_of_ble_eq_true rfl, Nat.le_of_ble_eq_true rfl⟩) hS (fun r_36 G_37 H locs hpo hW hS => ?_)
    have hX_40 : Q_suits y_22 y_25 y_28 y_31 y_34 G_17 r_36 G_37 := hpo
    obtain ⟨hB_G_37, hq_38, -⟩ := hpo
    refine lv_pop2_2 hx hb dL_law_971 rfl ?_
    refine lv_goto (tgt := 1641) hx hb dL_law_972 (by decide) ?_
    have g_41 : gIB G_37 = gIB G := gIB_fr (rs := []) (fs := []) ((Fr.rf.call hq_18 (by decide) (by decide)).call hq_38 (by decide) (by decide)) (by decide) (by decide)
    have g_42 : gO G_37 = gO G := gO_fr (rs := []) (fs := []) ((Fr.rf.call hq_18 (by decide) (by decide)).call hq_38 (by decide) (by decide)) (by decide) (by decide)
    have g_43 : gP G_37 = gP G := gP_fr (rs := []) (fs := []) ((Fr.rf.call hq_18 (by decide) (by decide)).call hq_38 (by decide) (by decide)) (by decide) (by decide)
    have g_44 : gS G_37 = gS G := gS_fr (rs := []) (fs := []) ((Fr.rf.call hq_18 (by decide) (by decide)).call hq_38 (by decide) (by decide)) (by decide) (by decide)
    have g_45 : gTE G_37 = gTE G := gTE_fr (rs := []) (fs := []) ((Fr.rf.call hq_18 (by decide) (by decide)).call hq_38 (by decide) (by decide)) (by decide) (by decide)
    have g_46 : gW G_37 = gW G := gW_fr (rs := []) (fs := []) ((Fr.rf.call hq_18 (by decide) (by decide)).call hq_38 (by decide) (by decide)) (by decide) (by decide)
    have b_47 : 0 ≤ (G.1 0 11).toInt ∧ (G.1 0 11).toInt ≤ 1600 := hB_G.i 0 11 rfl rfl
    have g_48 : (G_37.1 0 11).toInt = (G.1 0 11).toInt := by rw [show G_37.1 0 11 = (G.1 0 11) from ((hq_38.i 0 11 (by decide) (by decide)).trans (hq_18.i 0 11 (by decide) (by decide)))]
    have b_49 : 0 ≤ (G.1 3 7).toInt ∧ (G.1 3 7).toInt ≤ 4 := hB_G.i 3 7 rfl rfl
    have g_50 : (G_37.1 3 7).toInt = (G.1 3 7).toInt := by rw [show G_37.1 3 7 = (G.1 3 7) from ((hq_38.i 3 7 (by decide) (by decide)).trans (hq_18.i 3 7 (by decide) (by decide)))]
    have b_51 : (-1) ≤ (G.1 3 8).toInt ∧ (G.1 3 8).toInt ≤ 1600 := hB_G.i 3 8 rfl rfl
    have g_52 : (G_37.1 3 8).toInt = (G.1 3 8).toInt := by rw [show G_37.1 3 8 = (G.1 3 8) from ((hq_38.i 3 8 (by decide) (by decide)).trans (hq_18.i 3 8 (by decide) (by decide)))]
    have b_53 : 0 ≤ (G.1 30 4).toInt ∧ (G.1 30 4).toInt ≤ 40 := hB_G.i 30 4 rfl rfl
    have g_54 : (G_37.1 30 4).toInt = (G.1 30 4).toInt := by rw [show G_37.1 30 4 = (G.1 30 4) from ((hq_38.i 30 4 (by decide) (by decide)).trans (hq_18.i 30 4 (by decide) (by decide)))]
    have b_55 : 0 ≤ (G.1 30 5).toInt ∧ (G.1 30 5).toInt ≤ 40 := hB_G.i 30 5 rfl rfl
    have g_56 : (G_37.1 30 5).toInt = (G.1 30 5).toInt := by rw [show G_37.1 30 5 = (G.1 30 5) from ((hq_38.i 30 5 (by decide) (by decide)).trans (hq_18.i 30 5 (by decide) (by decide)))]
    have b_57 : 0 ≤ (G.1 31 6).toInt ∧ (G.1 31 6).toInt ≤ 100000 := hB_G.i 31 6 rfl rfl
    have g_58 : (G_37.1 31 6).toInt = (G.1 31 6).toInt := by rw [show G_37.1 31 6 = (G.1 31 6) from ((hq_38.i 31 6 (by decide) (by decide)).trans (hq_18.i 31 6 (by decide) (by decide)))]
    have b_59 : 0 ≤ (G.1 66 1).toInt ∧ (G.1 66 1).toInt ≤ 1600 := hB_G.i 66 1 rfl rfl
    have g_60 : (G_37.1 66 1).toInt = (G.1 66 1).toInt := by rw [show G_37.1 66 1 = (G.1 66 1) from ((hq_38.i 66 1 (by decide) (by decide)).trans (hq_18.i 66 1 (by decide) (by decide)))]
    have b_61 : 0 ≤ (G.1 66 2).toInt ∧ (G.1 66 2).toInt ≤ 4 := hB_G.i 66 2 rfl rfl
    have g_62 : (G_37.1 66 2).toInt = (G.1 66 2).toInt := by rw [show G_37.1 66 2 = (G.1 66 2) from ((hq_38.i 66 2 (by decide) (by decide)).trans (hq_18.i 66 2 (by decide) (by decide)))]
    have b_63 : (-1) ≤ (G.1 66 3).toInt ∧ (G.1 66 3).toInt ≤ 1600 := hB_G.i 66 3 rfl rfl
    have g_64 : (G_37.1 66 3).toInt = (G.1 66 3).toInt := by rw [show G_37.1 66 3 = (G.1 66 3) from ((hq_38.i 66 3 (by decide) (by decide)).trans (hq_18.i 66 3 (by decide) (by decide)))]
    have b_65 : 0 ≤ (G.1 66 78).toInt ∧ (G.1 66 78).toInt ≤ 40 := hB_G.i 66 78 rfl rfl
    have g_66 : (G_37.1 66 78).toInt = (G.1 66 78).toInt := by rw [show G_37.1 66 78 = (G.1 66 78) from ((hq_38.i 66 78 (by decide) (by decide)).trans (hq_18.i 66 78 (by decide) (by decide)))]
    have b_67 : 0 ≤ (G.1 66 79).toInt ∧ (G.1 66 79).toInt ≤ 40 := hB_G.i 66 79 rfl rfl
    have g_68 : (G_37.1 66 79).toInt = (G.1 66 79).toInt := by rw [show G_37.1 66 79 = (G.1 66 79) from ((hq_38.i 66 79 (by decide) (by decide)).trans (hq_18.i 66 79 (by decide) (by decide)))]
    have b_69 : 0 ≤ (G.1 66 86).toInt ∧ (G.1 66 86).toInt ≤ 100000 := hB_G.i 66 86 rfl rfl
    have g_70 : (G_37.1 66 86).toInt = (G.1 66 86).toInt := by rw [show G_37.1 66 86 = (G.1 66 86) from ((hq_38.i 66 86 (by decide) (by decide)).trans (hq_18.i 66 86 (by decide) (by decide)))]
    have b_71 : 0 ≤ (G.1 96 0).toInt ∧ (G.1 96 0).toInt ≤ 9 := hB_G.i 96 0 rfl rfl
    have g_72 : (G_37.1 96 0).toInt = (G.1 96 0).toInt := by rw [show G_37.1 96 0 = (G.1 96 0) from ((hq_38.i 96 0 (by decide) (by decide)).trans (hq_18.i 96 0 (by decide) (by decide)))]
    have b_73 : 0 ≤ (G.1 96 1).toInt ∧ (G.1 96 1).toInt ≤ 9 := hB_G.i 96 1 rfl rfl
    have g_74 : (G_37.1 96 1).toInt = (G.1 96 1).toInt := by rw [show G_37.1 96 1 = (G.1 96 1) from ((hq_38.i 96 1 (by decide) (by decide)).trans (hq_18.i 96 1 (by decide) (by decide)))]
    have b_75 : 0 ≤ (G.1 96 2).toInt ∧ (G.1 96 2).toInt ≤ 9 := hB_G.i 96 2 rfl rfl
    have g_76 : (G_37.1 96 2).toInt = (G.1 96 2).toInt := by rw [show G_37.1 96 2 = (G.1 96 2) from ((hq_38.i 96 2 (by decide) (by decide)).trans (hq_18.i 96 2 (by decide) (by decide)))]
    exact K G_37 _ _ _ (Or.inr ⟨((((hq_38.r 0 0 (by decide) (by decide)).trans (hq_18.r 0 0 (by decide) (by decide)))).trans (hv_0_0)), ((((hq_38.r 0 1 (by decide) (by decide)).trans (hq_18.r 0 1 (by decide) (by decide)))).trans (hv_0_1)), ((((hq_38.r 6 4 (by decide) (by decide)).trans (hq_18.r 6 4 (by decide) (by decide)))).trans (hv_6_4)), by omega, by omega, by omega, by omega, by omega, by omega, by omega, by omega, by omega, by omega, by omega, by omega, by omega⟩) hB_G_37 hW hS (lv_sub hl [0, 1, 2, 3] rfl)
