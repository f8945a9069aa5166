theorem m1072 : Cond.methodLink RL 79 yX11_begin ∈ gd := gdc_4_14 12 rfl gw_methodLink
theorem m1073 : Cond.instanceMethod yX11_begin ∈ gd := gdc_4_14 13 rfl gw_instanceMethod
theorem m1074 : Cond.selects RX11 yX11_begin yX11_begin ∈ gd := gdc_4_14 14 rfl gw_selects
theorem m1075 : Cond.code yX11_begin cX11_begin 5 (some .int) ∈ gd := gdc_4_14 15 rfl gw_code
theorem m1083 : Cond.methodLink RL 83 yX11_suits ∈ gd := gdc_5_0 7 rfl gw_methodLink
theorem m1084 : Cond.instanceMethod yX11_suits ∈ gd := gdc_5_0 8 rfl gw_instanceMethod
theorem m1085 : Cond.selects RX11 yX11_suits yX11_suits ∈ gd := gdc_5_0 9 rfl gw_selects
theorem m1086 : Cond.code yX11_suits cX11_suits 9 (some .long) ∈ gd := gdc_5_0 10 rfl gw_code
theorem m1087 : Cond.methodLink RL 88 yX11_keeps ∈ gd := gdc_5_0 11 rfl gw_methodLink
theorem m1088 : Cond.instanceMethod yX11_keeps ∈ gd := gdc_5_0 12 rfl gw_instanceMethod
theorem m1089 : Cond.selects RX11 yX11_keeps yX11_keeps ∈ gd := gdc_5_0 13 rfl gw_selects
theorem m1090 : Cond.code yX11_keeps cX11_keeps 4 (some .int) ∈ gd := gdc_5_0 14 rfl gw_code
theorem m1113 : Cond.methodLink RL 92 yX11_brave ∈ gd := gdc_5_2 5 rfl gw_methodLink
theorem m1114 : Cond.instanceMethod yX11_brave ∈ gd := gdc_5_2 6 rfl gw_instanceMethod
theorem m1115 : Cond.selects RX11 yX11_brave yX11_brave ∈ gd := gdc_5_2 7 rfl gw_selects
theorem m1116 : Cond.code yX11_brave cX11_brave 6 (some .long) ∈ gd := gdc_5_2 8 rfl gw_code
theorem m1134 : Cond.methodLink RL 96 yX11_boldest ∈ gd := gdc_5_3 10 rfl gw_methodLink
theorem m1135 : Cond.instanceMethod yX11_boldest ∈ gd := gdc_5_3 11 rfl gw_instanceMethod
theorem m1136 : Cond.selects RX11 yX11_boldest yX11_boldest ∈ gd := gdc_5_3 12 rfl gw_selects
theorem m1137 : Cond.code yX11_boldest cX11_boldest 6 (some .int) ∈ gd := gdc_5_3 13 rfl gw_code
theorem m1142 : Cond.methodLink RL 100 yX11_wager ∈ gd := gdc_5_4 2 rfl gw_methodLink
theorem m1143 : Cond.instanceMethod yX11_wager ∈ gd := gdc_5_4 3 rfl gw_instanceMethod
theorem m1144 : Cond.selects RX11 yX11_wager yX11_wager ∈ gd := gdc_5_4 4 rfl gw_selects
theorem m1145 : Cond.code yX11_wager cX11_wager 6 (some .int) ∈ gd := gdc_5_4 5 rfl gw_code
theorem m1916 : Cond.methodLink RL 82 yX12_begin ∈ gd := gdc_8_7 8 rfl gw_methodLink
theorem m1917 : Cond.instanceMethod yX12_begin ∈ gd := gdc_8_7 9 rfl gw_instanceMethod
theorem m1918 : Cond.selects RX12 yX12_begin yX12_begin ∈ gd := gdc_8_7 10 rfl gw_selects
theorem m1919 : Cond.code yX12_begin cX12_begin 5 (some .int) ∈ gd := gdc_8_7 11 rfl gw_code
theorem m1923 : Cond.methodLink RL 87 yX12_suits ∈ gd := gdc_8_7 15 rfl gw_methodLink
theorem m1924 : Cond.instanceMethod yX12_suits ∈ gd := gdc_8_8 0 rfl gw_instanceMethod
theorem m1925 : Cond.selects RX12 yX12_suits yX12_suits ∈ gd := gdc_8_8 1 rfl gw_selects
theorem m1926 : Cond.code yX12_suits cX12_suits 9 (some .long) ∈ gd := gdc_8_8 2 rfl gw_code
theorem m1927 : Cond.methodLink RL 91 yX12_keeps ∈ gd := gdc_8_8 3 rfl gw_methodLink
theorem m1928 : Cond.instanceMethod yX12_keeps ∈ gd := gdc_8_8 4 rfl gw_instanceMethod
theorem m1929 : Cond.selects RX12 yX12_keeps yX12_keeps ∈ gd := gdc_8_8 5 rfl gw_selects
theorem m1930 : Cond.code yX12_keeps cX12_keeps 7 (some .int) ∈ gd := gdc_8_8 6 rfl gw_code
theorem m1939 : Cond.methodLink RL 95 yX12_brave ∈ gd := gdc_8_8 15 rfl gw_methodLink
theorem m1940 : Cond.instanceMethod yX12_brave ∈ gd := gdc_8_9 0 rfl gw_instanceMethod
theorem m1941 : Cond.selects RX12 yX12_brave yX12_brave ∈ gd := gdc_8_9 1 rfl gw_selects
theorem m1942 : Cond.code yX12_brave cX12_brave 6 (some .long) ∈ gd := gdc_8_9 2 rfl gw_code
theorem m1963 : Cond.methodLink RL 99 yX12_boldest ∈ gd := gdc_8_10 7 rfl gw_methodLink
theorem m1964 : Cond.instanceMethod yX12_boldest ∈ gd := gdc_8_10 8 rfl gw_instanceMethod
theorem m1965 : Cond.selects RX12 yX12_boldest yX12_boldest ∈ gd := gdc_8_10 9 rfl gw_selects
theorem m1966 : Cond.code yX12_boldest cX12_boldest 9 (some .int) ∈ gd := gdc_8_10 10 rfl gw_code
theorem m1967 : Cond.methodLink RL 103 yX12_wager ∈ gd := gdc_8_10 11 rfl gw_methodLink
theorem m1968 : Cond.instanceMethod yX12_wager ∈ gd := gdc_8_10 12 rfl gw_instanceMethod
theorem m1969 : Cond.selects RX12 yX12_wager yX12_wager ∈ gd := gdc_8_10 13 rfl gw_selects
theorem m1970 : Cond.code yX12_wager cX12_wager 6 (some .int) ∈ gd := gdc_8_10 14 rfl gw_code
def rbL_law_859 : List (Nat × List Nat) := [(859, [43]), (860, [42]), (861, [29]), (862, [4]), (863, [96]), (864, [46]), (865, [42]), (866, [29]), (867, [5]), (868, [96]), (869, [46]), (870, [42]), (871, [29]), (872, [6]), (873, [96]), (874, [46]), (875, [42]), (876, [29]), (877, [7]), (878, [96]), (879, [46]), (880, [182, 0, 79]), (883, [87]), (884, [44])]
theorem rcL_law_859 : dgo (lb cL_law) 0 rbL_law_859 = true := by decide +kernel
theorem dL_law_859 : decode cL_law 859 = .ok (.aload_n 1, 1) := dk_43 (dw rcL_law_859 0 rfl)
theorem dL_law_860 : decode cL_law 860 = .ok (.aload_n 0, 1) := dk_42 (dw rcL_law_859 1 rfl)
theorem dL_law_861 : decode cL_law 861 = .ok (.iload_n 3, 1) := dk_29 (dw rcL_law_859 2 rfl)
theorem dL_law_862 : decode cL_law 862 = .ok (.iconst 1, 1) := dk_4 (dw rcL_law_859 3 rfl)
theorem dL_law_863 : decode cL_law 863 = .ok (.iadd, 1) := dk_96 (dw rcL_law_859 4 rfl)
theorem dL_law_864 : decode cL_law 864 = .ok (.iaload, 1) := dk_46 (dw rcL_law_859 5 rfl)
theorem dL_law_865 : decode cL_law 865 = .ok (.aload_n 0, 1) := dk_42 (dw rcL_law_859 6 rfl)
theorem dL_law_866 : decode cL_law 866 = .ok (.iload_n 3, 1) := dk_29 (dw rcL_law_859 7 rfl)
theorem dL_law_867 : decode cL_law 867 = .ok (.iconst 2, 1) := dk_5 (dw rcL_law_859 8 rfl)
theorem dL_law_868 : decode cL_law 868 = .ok (.iadd, 1) := dk_96 (dw rcL_law_859 9 rfl)
theorem dL_law_869 : decode cL_law 869 = .ok (.iaload, 1) := dk_46 (dw rcL_law_859 10 rfl)
theorem dL_law_870 : decode cL_law 870 = .ok (.aload_n 0, 1) := dk_42 (dw rcL_law_859 11 rfl)
theorem dL_law_871 : decode cL_law 871 = .ok (.iload_n 3, 1) := dk_29 (dw rcL_law_859 12 rfl)
theorem dL_law_872 : decode cL_law 872 = .ok (.iconst 3, 1) := dk_6 (dw rcL_law_859 13 rfl)
theorem dL_law_873 : decode cL_law 873 = .ok (.iadd, 1) := dk_96 (dw rcL_law_859 14 rfl)
theorem dL_law_874 : decode cL_law 874 = .ok (.iaload, 1) := dk_46 (dw rcL_law_859 15 rfl)
theorem dL_law_875 : decode cL_law 875 = .ok (.aload_n 0, 1) := dk_42 (dw rcL_law_859 16 rfl)
theorem dL_law_876 : decode cL_law 876 = .ok (.iload_n 3, 1) := dk_29 (dw rcL_law_859 17 rfl)
theorem dL_law_877 : decode cL_law 877 = .ok (.iconst 4, 1) := dk_7 (dw rcL_law_859 18 rfl)
theorem dL_law_878 : decode cL_law 878 = .ok (.iadd, 1) := dk_96 (dw rcL_law_859 19 rfl)
theorem dL_law_879 : decode cL_law 879 = .ok (.iaload, 1) := dk_46 (dw rcL_law_859 20 rfl)
theorem dL_law_880 : decode cL_law 880 = .ok (.invokevirtual 79, 3) := dk_182 (dw rcL_law_859 21 rfl) rfl
theorem dL_law_883 : decode cL_law 883 = .ok (.pop, 1) := dk_87 (dw rcL_law_859 22 rfl)
theorem dL_law_884 : decode cL_law 884 = .ok (.aload_n 2, 1) := dk_44 (dw rcL_law_859 23 rfl)
def rbL_law_885 : List (Nat × List Nat) := [(885, [42]), (886, [29]), (887, [4]), (888, [96]), (889, [46]), (890, [42]), (891, [29]), (892, [5]), (893, [96]), (894, [46]), (895, [42]), (896, [29]), (897, [6]), (898, [96]), (899, [46]), (900, [42]), (901, [29]), (902, [7]), (903, [96]), (904, [46]), (905, [182, 0, 82]), (908, [87]), (909, [167, 2, 220]), (912, [43])]
theorem rcL_law_885 : dgo (lb cL_law) 0 rbL_law_885 = true := by decide +kernel
theorem dL_law_885 : decode cL_law 885 = .ok (.aload_n 0, 1) := dk_42 (dw rcL_law_885 0 rfl)
theorem dL_law_886 : decode cL_law 886 = .ok (.iload_n 3, 1) := dk_29 (dw rcL_law_885 1 rfl)
theorem dL_law_887 : decode cL_law 887 = .ok (.iconst 1, 1) := dk_4 (dw rcL_law_885 2 rfl)
theorem dL_law_888 : decode cL_law 888 = .ok (.iadd, 1) := dk_96 (dw rcL_law_885 3 rfl)
theorem dL_law_889 : decode cL_law 889 = .ok (.iaload, 1) := dk_46 (dw rcL_law_885 4 rfl)
theorem dL_law_890 : decode cL_law 890 = .ok (.aload_n 0, 1) := dk_42 (dw rcL_law_885 5 rfl)
theorem dL_law_891 : decode cL_law 891 = .ok (.iload_n 3, 1) := dk_29 (dw rcL_law_885 6 rfl)
theorem dL_law_892 : decode cL_law 892 = .ok (.iconst 2, 1) := dk_5 (dw rcL_law_885 7 rfl)
theorem dL_law_893 : decode cL_law 893 = .ok (.iadd, 1) := dk_96 (dw rcL_law_885 8 rfl)
theorem dL_law_894 : decode cL_law 894 = .ok (.iaload, 1) := dk_46 (dw rcL_law_885 9 rfl)
theorem dL_law_895 : decode cL_law 895 = .ok (.aload_n 0, 1) := dk_42 (dw rcL_law_885 10 rfl)
theorem dL_law_896 : decode cL_law 896 = .ok (.iload_n 3, 1) := dk_29 (dw rcL_law_885 11 rfl)
theorem dL_law_897 : decode cL_law 897 = .ok (.iconst 3, 1) := dk_6 (dw rcL_law_885 12 rfl)
theorem dL_law_898 : decode cL_law 898 = .ok (.iadd, 1) := dk_96 (dw rcL_law_885 13 rfl)
theorem dL_law_899 : decode cL_law 899 = .ok (.iaload, 1) := dk_46 (dw rcL_law_885 14 rfl)
theorem dL_law_900 : decode cL_law 900 = .ok (.aload_n 0, 1) := dk_42 (dw rcL_law_885 15 rfl)
theorem dL_law_901 : decode cL_law 901 = .ok (.iload_n 3, 1) := dk_29 (dw rcL_law_885 16 rfl)
theorem dL_law_902 : decode cL_law 902 = .ok (.iconst 4, 1) := dk_7 (dw rcL_law_885 17 rfl)
theorem dL_law_903 : decode cL_law 903 = .ok (.iadd, 1) := dk_96 (dw rcL_law_885 18 rfl)
theorem dL_law_904 : decode cL_law 904 = .ok (.iaload, 1) := dk_46 (dw rcL_law_885 19 rfl)
theorem dL_law_905 : decode cL_law 905 = .ok (.invokevirtual 82, 3) := dk_182 (dw rcL_law_885 20 rfl) rfl
theorem dL_law_908 : decode cL_law 908 = .ok (.pop, 1) := dk_87 (dw rcL_law_885 21 rfl)
theorem dL_law_909 : decode cL_law 909 = .ok (.goto 732, 3) := dk_167 (dw rcL_law_885 22 rfl) rfl
theorem dL_law_912 : decode cL_law 912 = .ok (.aload_n 1, 1) := dk_43 (dw rcL_law_885 23 rfl)
def rbL_law_913 : List (Nat × List Nat) := [(913, [42]), (914, [29]), (915, [4]), (916, [96]), (917, [46]), (918, [42]), (919, [29]), (920, [5]), (921, [96]), (922, [46]), (923, [42]), (924, [29]), (925, [6]), (926, [96]), (927, [46]), (928, [42]), (929, [29]), (930, [7]), (931, [96]), (932, [46]), (933, [42]), (934, [29]), (935, [8]), (936, [96])]
theorem rcL_law_913 : dgo (lb cL_law) 0 rbL_law_913 = true := by decide +kernel
theorem dL_law_913 : decode cL_law 913 = .ok (.aload_n 0, 1) := dk_42 (dw rcL_law_913 0 rfl)
theorem dL_law_914 : decode cL_law 914 = .ok (.iload_n 3, 1) := dk_29 (dw rcL_law_913 1 rfl)
theorem dL_law_915 : decode cL_law 915 = .ok (.iconst 1, 1) := dk_4 (dw rcL_law_913 2 rfl)
theorem dL_law_916 : decode cL_law 916 = .ok (.iadd, 1) := dk_96 (dw rcL_law_913 3 rfl)
theorem dL_law_917 : decode cL_law 917 = .ok (.iaload, 1) := dk_46 (dw rcL_law_913 4 rfl)
theorem dL_law_918 : decode cL_law 918 = .ok (.aload_n 0, 1) := dk_42 (dw rcL_law_913 5 rfl)
theorem dL_law_919 : decode cL_law 919 = .ok (.iload_n 3, 1) := dk_29 (dw rcL_law_913 6 rfl)
theorem dL_law_920 : decode cL_law 920 = .ok (.iconst 2, 1) := dk_5 (dw rcL_law_913 7 rfl)
theorem dL_law_921 : decode cL_law 921 = .ok (.iadd, 1) := dk_96 (dw rcL_law_913 8 rfl)
theorem dL_law_922 : decode cL_law 922 = .ok (.iaload, 1) := dk_46 (dw rcL_law_913 9 rfl)
theorem dL_law_923 : decode cL_law 923 = .ok (.aload_n 0, 1) := dk_42 (dw rcL_law_913 10 rfl)
theorem dL_law_924 : decode cL_law 924 = .ok (.iload_n 3, 1) := dk_29 (dw rcL_law_913 11 rfl)
theorem dL_law_925 : decode cL_law 925 = .ok (.iconst 3, 1) := dk_6 (dw rcL_law_913 12 rfl)
theorem dL_law_926 : decode cL_law 926 = .ok (.iadd, 1) := dk_96 (dw rcL_law_913 13 rfl)
theorem dL_law_927 : decode cL_law 927 = .ok (.iaload, 1) := dk_46 (dw rcL_law_913 14 rfl)
theorem dL_law_928 : decode cL_law 928 = .ok (.aload_n 0, 1) := dk_42 (dw rcL_law_913 15 rfl)
theorem dL_law_929 : decode cL_law 929 = .ok (.iload_n 3, 1) := dk_29 (dw rcL_law_913 16 rfl)
theorem dL_law_930 : decode cL_law 930 = .ok (.iconst 4, 1) := dk_7 (dw rcL_law_913 17 rfl)
theorem dL_law_931 : decode cL_law 931 = .ok (.iadd, 1) := dk_96 (dw rcL_law_913 18 rfl)
theorem dL_law_932 : decode cL_law 932 = .ok (.iaload, 1) := dk_46 (dw rcL_law_913 19 rfl)
theorem dL_law_933 : decode cL_law 933 = .ok (.aload_n 0, 1) := dk_42 (dw rcL_law_913 20 rfl)
theorem dL_law_934 : decode cL_law 934 = .ok (.iload_n 3, 1) := dk_29 (dw rcL_law_913 21 rfl)
theorem dL_law_935 : decode cL_law 935 = .ok (.iconst 5, 1) := dk_8 (dw rcL_law_913 22 rfl)
theorem dL_law_936 : decode cL_law 936 = .ok (.iadd, 1) := dk_96 (dw rcL_law_913 23 rfl)
def rbL_law_937 : List (Nat × List Nat) := [(937, [46]), (938, [182, 0, 83]), (941, [88]), (942, [44]), (943, [42]), (944, [29]), (945, [4]), (946, [96]), (947, [46]), (948, [42]), (949, [29]), (950, [5]), (951, [96]), (952, [46]), (953, [42]), (954, [29]), (955, [6]), (956, [96]), (957, [46]), (958, [42]), (959, [29]), (960, [7]), (961, [96]), (962, [46])]
theorem rcL_law_937 : dgo (lb cL_law) 0 rbL_law_937 = true := by decide +kernel
theorem dL_law_937 : decode cL_law 937 = .ok (.iaload, 1) := dk_46 (dw rcL_law_937 0 rfl)
theorem dL_law_938 : decode cL_law 938 = .ok (.invokevirtual 83, 3) := dk_182 (dw rcL_law_937 1 rfl) rfl
theorem dL_law_941 : decode cL_law 941 = .ok (.pop2, 1) := dk_88 (dw rcL_law_937 2 rfl)
theorem dL_law_942 : decode cL_law 942 = .ok (.aload_n 2, 1) := dk_44 (dw rcL_law_937 3 rfl)
theorem dL_law_943 : decode cL_law 943 = .ok (.aload_n 0, 1) := dk_42 (dw rcL_law_937 4 rfl)
theorem dL_law_944 : decode cL_law 944 = .ok (.iload_n 3, 1) := dk_29 (dw rcL_law_937 5 rfl)
theorem dL_law_945 : decode cL_law 945 = .ok (.iconst 1, 1) := dk_4 (dw rcL_law_937 6 rfl)
theorem dL_law_946 : decode cL_law 946 = .ok (.iadd, 1) := dk_96 (dw rcL_law_937 7 rfl)
theorem dL_law_947 : decode cL_law 947 = .ok (.iaload, 1) := dk_46 (dw rcL_law_937 8 rfl)
theorem dL_law_948 : decode cL_law 948 = .ok (.aload_n 0, 1) := dk_42 (dw rcL_law_937 9 rfl)
theorem dL_law_949 : decode cL_law 949 = .ok (.iload_n 3, 1) := dk_29 (dw rcL_law_937 10 rfl)
theorem dL_law_950 : decode cL_law 950 = .ok (.iconst 2, 1) := dk_5 (dw rcL_law_937 11 rfl)
theorem dL_law_951 : decode cL_law 951 = .ok (.iadd, 1) := dk_96 (dw rcL_law_937 12 rfl)
theorem dL_law_952 : decode cL_law 952 = .ok (.iaload, 1) := dk_46 (dw rcL_law_937 13 rfl)
theorem dL_law_953 : decode cL_law 953 = .ok (.aload_n 0, 1) := dk_42 (dw rcL_law_937 14 rfl)
theorem dL_law_954 : decode cL_law 954 = .ok (.iload_n 3, 1) := dk_29 (dw rcL_law_937 15 rfl)
theorem dL_law_955 : decode cL_law 955 = .ok (.iconst 3, 1) := dk_6 (dw rcL_law_937 16 rfl)
theorem dL_law_956 : decode cL_law 956 = .ok (.iadd, 1) := dk_96 (dw rcL_law_937 17 rfl)
theorem dL_law_957 : decode cL_law 957 = .ok (.iaload, 1) := dk_46 (dw rcL_law_937 18 rfl)
theorem dL_law_958 : decode cL_law 958 = .ok (.aload_n 0, 1) := dk_42 (dw rcL_law_937 19 rfl)
theorem dL_law_959 : decode cL_law 959 = .ok (.iload_n 3, 1) := dk_29 (dw rcL_law_937 20 rfl)
theorem dL_law_960 : decode cL_law 960 = .ok (.iconst 4, 1) := dk_7 (dw rcL_law_937 21 rfl)
theorem dL_law_961 : decode cL_law 961 = .ok (.iadd, 1) := dk_96 (dw rcL_law_937 22 rfl)
theorem dL_law_962 : decode cL_law 962 = .ok (.iaload, 1) := dk_46 (dw rcL_law_937 23 rfl)
def rbL_law_963 : List (Nat × List Nat) := [(963, [42]), (964, [29]), (965, [8]), (966, [96]), (967, [46]), (968, [182, 0, 87]), (971, [88]), (972, [167, 2, 157]), (975, [43]), (976, [42]), (977, [29]), (978, [4]), (979, [96]), (980, [46]), (981, [42]), (982, [29]), (983, [5]), (984, [96]), (985, [46]), (986, [42]), (987, [29]), (988, [6]), (989, [96]), (990, [46])]
theorem rcL_law_963 : dgo (lb cL_law) 0 rbL_law_963 = true := by decide +kernel
theorem dL_law_963 : decode cL_law 963 = .ok (.aload_n 0, 1) := dk_42 (dw rcL_law_963 0 rfl)
theorem dL_law_964 : decode cL_law 964 = .ok (.iload_n 3, 1) := dk_29 (dw rcL_law_963 1 rfl)
theorem dL_law_965 : decode cL_law 965 = .ok (.iconst 5, 1) := dk_8 (dw rcL_law_963 2 rfl)
theorem dL_law_966 : decode cL_law 966 = .ok (.iadd, 1) := dk_96 (dw rcL_law_963 3 rfl)
theorem dL_law_967 : decode cL_law 967 = .ok (.iaload, 1) := dk_46 (dw rcL_law_963 4 rfl)
theorem dL_law_968 : decode cL_law 968 = .ok (.invokevirtual 87, 3) := dk_182 (dw rcL_law_963 5 rfl) rfl
theorem dL_law_971 : decode cL_law 971 = .ok (.pop2, 1) := dk_88 (dw rcL_law_963 6 rfl)
theorem dL_law_972 : decode cL_law 972 = .ok (.goto 669, 3) := dk_167 (dw rcL_law_963 7 rfl) rfl
theorem dL_law_975 : decode cL_law 975 = .ok (.aload_n 1, 1) := dk_43 (dw rcL_law_963 8 rfl)
theorem dL_law_976 : decode cL_law 976 = .ok (.aload_n 0, 1) := dk_42 (dw rcL_law_963 9 rfl)
theorem dL_law_977 : decode cL_law 977 = .ok (.iload_n 3, 1) := dk_29 (dw rcL_law_963 10 rfl)
theorem dL_law_978 : decode cL_law 978 = .ok (.iconst 1, 1) := dk_4 (dw rcL_law_963 11 rfl)
theorem dL_law_979 : decode cL_law 979 = .ok (.iadd, 1) := dk_96 (dw rcL_law_963 12 rfl)
theorem dL_law_980 : decode cL_law 980 = .ok (.iaload, 1) := dk_46 (dw rcL_law_963 13 rfl)
theorem dL_law_981 : decode cL_law 981 = .ok (.aload_n 0, 1) := dk_42 (dw rcL_law_963 14 rfl)
theorem dL_law_982 : decode cL_law 982 = .ok (.iload_n 3, 1) := dk_29 (dw rcL_law_963 15 rfl)
theorem dL_law_983 : decode cL_law 983 = .ok (.iconst 2, 1) := dk_5 (dw rcL_law_963 16 rfl)
theorem dL_law_984 : decode cL_law 984 = .ok (.iadd, 1) := dk_96 (dw rcL_law_963 17 rfl)
theorem dL_law_985 : decode cL_law 985 = .ok (.iaload, 1) := dk_46 (dw rcL_law_963 18 rfl)
theorem dL_law_986 : decode cL_law 986 = .ok (.aload_n 0, 1) := dk_42 (dw rcL_law_963 19 rfl)
theorem dL_law_987 : decode cL_law 987 = .ok (.iload_n 3, 1) := dk_29 (dw rcL_law_963 20 rfl)
theorem dL_law_988 : decode cL_law 988 = .ok (.iconst 3, 1) := dk_6 (dw rcL_law_963 21 rfl)
theorem dL_law_989 : decode cL_law 989 = .ok (.iadd, 1) := dk_96 (dw rcL_law_963 22 rfl)
theorem dL_law_990 : decode cL_law 990 = .ok (.iaload, 1) := dk_46 (dw rcL_law_963 23 rfl)
def rbL_law_991 : List (Nat × List Nat) := [(991, [182, 0, 88]), (994, [87]), (995, [44]), (996, [42]), (997, [29]), (998, [4]), (999, [96]), (1000, [46]), (1001, [42]), (1002, [29]), (1003, [5]), (1004, [96]), (1005, [46]), (1006, [42]), (1007, [29]), (1008, [6]), (1009, [96]), (1010, [46]), (1011, [182, 0, 91]), (1014, [87]), (1015, [167, 2, 114]), (1018, [43]), (1019, [42]), (1020, [29])]
theorem rcL_law_991 : dgo (lb cL_law) 0 rbL_law_991 = true := by decide +kernel
theorem dL_law_991 : decode cL_law 991 = .ok (.invokevirtual 88, 3) := dk_182 (dw rcL_law_991 0 rfl) rfl
theorem dL_law_994 : decode cL_law 994 = .ok (.pop, 1) := dk_87 (dw rcL_law_991 1 rfl)
theorem dL_law_995 : decode cL_law 995 = .ok (.aload_n 2, 1) := dk_44 (dw rcL_law_991 2 rfl)
theorem dL_law_996 : decode cL_law 996 = .ok (.aload_n 0, 1) := dk_42 (dw rcL_law_991 3 rfl)
theorem dL_law_997 : decode cL_law 997 = .ok (.iload_n 3, 1) := dk_29 (dw rcL_law_991 4 rfl)
theorem dL_law_998 : decode cL_law 998 = .ok (.iconst 1, 1) := dk_4 (dw rcL_law_991 5 rfl)
theorem dL_law_999 : decode cL_law 999 = .ok (.iadd, 1) := dk_96 (dw rcL_law_991 6 rfl)
theorem dL_law_1000 : decode cL_law 1000 = .ok (.iaload, 1) := dk_46 (dw rcL_law_991 7 rfl)
theorem dL_law_1001 : decode cL_law 1001 = .ok (.aload_n 0, 1) := dk_42 (dw rcL_law_991 8 rfl)
theorem dL_law_1002 : decode cL_law 1002 = .ok (.iload_n 3, 1) := dk_29 (dw rcL_law_991 9 rfl)
theorem dL_law_1003 : decode cL_law 1003 = .ok (.iconst 2, 1) := dk_5 (dw rcL_law_991 10 rfl)
theorem dL_law_1004 : decode cL_law 1004 = .ok (.iadd, 1) := dk_96 (dw rcL_law_991 11 rfl)
theorem dL_law_1005 : decode cL_law 1005 = .ok (.iaload, 1) := dk_46 (dw rcL_law_991 12 rfl)
theorem dL_law_1006 : decode cL_law 1006 = .ok (.aload_n 0, 1) := dk_42 (dw rcL_law_991 13 rfl)
theorem dL_law_1007 : decode cL_law 1007 = .ok (.iload_n 3, 1) := dk_29 (dw rcL_law_991 14 rfl)
theorem dL_law_1008 : decode cL_law 1008 = .ok (.iconst 3, 1) := dk_6 (dw rcL_law_991 15 rfl)
theorem dL_law_1009 : decode cL_law 1009 = .ok (.iadd, 1) := dk_96 (dw rcL_law_991 16 rfl)
theorem dL_law_1010 : decode cL_law 1010 = .ok (.iaload, 1) := dk_46 (dw rcL_law_991 17 rfl)
theorem dL_law_1011 : decode cL_law 1011 = .ok (.invokevirtual 91, 3) := dk_182 (dw rcL_law_991 18 rfl) rfl
theorem dL_law_1014 : decode cL_law 1014 = .ok (.pop, 1) := dk_87 (dw rcL_law_991 19 rfl)
theorem dL_law_1015 : decode cL_law 1015 = .ok (.goto 626, 3) := dk_167 (dw rcL_law_991 20 rfl) rfl
theorem dL_law_1018 : decode cL_law 1018 = .ok (.aload_n 1, 1) := dk_43 (dw rcL_law_991 21 rfl)
theorem dL_law_1019 : decode cL_law 1019 = .ok (.aload_n 0, 1) := dk_42 (dw rcL_law_991 22 rfl)
theorem dL_law_1020 : decode cL_law 1020 = .ok (.iload_n 3, 1) := dk_29 (dw rcL_law_991 23 rfl)
def rbL_law_1021 : List (Nat × List Nat) := [(1021, [4]), (1022, [96]), (1023, [46]), (1024, [42]), (1025, [29]), (1026, [5]), (1027, [96]), (1028, [46]), (1029, [42]), (1030, [29]), (1031, [6]), (1032, [96]), (1033, [46]), (1034, [42]), (1035, [29]), (1036, [7]), (1037, [96]), (1038, [46]), (1039, [42]), (1040, [29]), (1041, [8]), (1042, [96]), (1043, [46]), (1044, [182, 0, 92])]
theorem rcL_law_1021 : dgo (lb cL_law) 0 rbL_law_1021 = true := by decide +kernel
theorem dL_law_1021 : decode cL_law 1021 = .ok (.iconst 1, 1) := dk_4 (dw rcL_law_1021 0 rfl)
theorem dL_law_1022 : decode cL_law 1022 = .ok (.iadd, 1) := dk_96 (dw rcL_law_1021 1 rfl)
theorem dL_law_1023 : decode cL_law 1023 = .ok (.iaload, 1) := dk_46 (dw rcL_law_1021 2 rfl)
theorem dL_law_1024 : decode cL_law 1024 = .ok (.aload_n 0, 1) := dk_42 (dw rcL_law_1021 3 rfl)
theorem dL_law_1025 : decode cL_law 1025 = .ok (.iload_n 3, 1) := dk_29 (dw rcL_law_1021 4 rfl)
theorem dL_law_1026 : decode cL_law 1026 = .ok (.iconst 2, 1) := dk_5 (dw rcL_law_1021 5 rfl)
theorem dL_law_1027 : decode cL_law 1027 = .ok (.iadd, 1) := dk_96 (dw rcL_law_1021 6 rfl)
theorem dL_law_1028 : decode cL_law 1028 = .ok (.iaload, 1) := dk_46 (dw rcL_law_1021 7 rfl)
theorem dL_law_1029 : decode cL_law 1029 = .ok (.aload_n 0, 1) := dk_42 (dw rcL_law_1021 8 rfl)
theorem dL_law_1030 : decode cL_law 1030 = .ok (.iload_n 3, 1) := dk_29 (dw rcL_law_1021 9 rfl)
theorem dL_law_1031 : decode cL_law 1031 = .ok (.iconst 3, 1) := dk_6 (dw rcL_law_1021 10 rfl)
theorem dL_law_1032 : decode cL_law 1032 = .ok (.iadd, 1) := dk_96 (dw rcL_law_1021 11 rfl)
theorem dL_law_1033 : decode cL_law 1033 = .ok (.iaload, 1) := dk_46 (dw rcL_law_1021 12 rfl)
theorem dL_law_1034 : decode cL_law 1034 = .ok (.aload_n 0, 1) := dk_42 (dw rcL_law_1021 13 rfl)
theorem dL_law_1035 : decode cL_law 1035 = .ok (.iload_n 3, 1) := dk_29 (dw rcL_law_1021 14 rfl)
theorem dL_law_1036 : decode cL_law 1036 = .ok (.iconst 4, 1) := dk_7 (dw rcL_law_1021 15 rfl)
theorem dL_law_1037 : decode cL_law 1037 = .ok (.iadd, 1) := dk_96 (dw rcL_law_1021 16 rfl)
theorem dL_law_1038 : decode cL_law 1038 = .ok (.iaload, 1) := dk_46 (dw rcL_law_1021 17 rfl)
theorem dL_law_1039 : decode cL_law 1039 = .ok (.aload_n 0, 1) := dk_42 (dw rcL_law_1021 18 rfl)
theorem dL_law_1040 : decode cL_law 1040 = .ok (.iload_n 3, 1) := dk_29 (dw rcL_law_1021 19 rfl)
theorem dL_law_1041 : decode cL_law 1041 = .ok (.iconst 5, 1) := dk_8 (dw rcL_law_1021 20 rfl)
theorem dL_law_1042 : decode cL_law 1042 = .ok (.iadd, 1) := dk_96 (dw rcL_law_1021 21 rfl)
theorem dL_law_1043 : decode cL_law 1043 = .ok (.iaload, 1) := dk_46 (dw rcL_law_1021 22 rfl)
theorem dL_law_1044 : decode cL_law 1044 = .ok (.invokevirtual 92, 3) := dk_182 (dw rcL_law_1021 23 rfl) rfl
def rbL_law_1047 : List (Nat × List Nat) := [(1047, [88]), (1048, [44]), (1049, [42]), (1050, [29]), (1051, [4]), (1052, [96]), (1053, [46]), (1054, [42]), (1055, [29]), (1056, [5]), (1057, [96]), (1058, [46]), (1059, [42]), (1060, [29]), (1061, [6]), (1062, [96]), (1063, [46]), (1064, [42]), (1065, [29]), (1066, [7]), (1067, [96]), (1068, [46]), (1069, [42]), (1070, [29])]
theorem rcL_law_1047 : dgo (lb cL_law) 0 rbL_law_1047 = true := by decide +kernel
theorem dL_law_1047 : decode cL_law 1047 = .ok (.pop2, 1) := dk_88 (dw rcL_law_1047 0 rfl)
theorem dL_law_1048 : decode cL_law 1048 = .ok (.aload_n 2, 1) := dk_44 (dw rcL_law_1047 1 rfl)
theorem dL_law_1049 : decode cL_law 1049 = .ok (.aload_n 0, 1) := dk_42 (dw rcL_law_1047 2 rfl)
theorem dL_law_1050 : decode cL_law 1050 = .ok (.iload_n 3, 1) := dk_29 (dw rcL_law_1047 3 rfl)
theorem dL_law_1051 : decode cL_law 1051 = .ok (.iconst 1, 1) := dk_4 (dw rcL_law_1047 4 rfl)
theorem dL_law_1052 : decode cL_law 1052 = .ok (.iadd, 1) := dk_96 (dw rcL_law_1047 5 rfl)
theorem dL_law_1053 : decode cL_law 1053 = .ok (.iaload, 1) := dk_46 (dw rcL_law_1047 6 rfl)
theorem dL_law_1054 : decode cL_law 1054 = .ok (.aload_n 0, 1) := dk_42 (dw rcL_law_1047 7 rfl)
theorem dL_law_1055 : decode cL_law 1055 = .ok (.iload_n 3, 1) := dk_29 (dw rcL_law_1047 8 rfl)
theorem dL_law_1056 : decode cL_law 1056 = .ok (.iconst 2, 1) := dk_5 (dw rcL_law_1047 9 rfl)
theorem dL_law_1057 : decode cL_law 1057 = .ok (.iadd, 1) := dk_96 (dw rcL_law_1047 10 rfl)
theorem dL_law_1058 : decode cL_law 1058 = .ok (.iaload, 1) := dk_46 (dw rcL_law_1047 11 rfl)
theorem dL_law_1059 : decode cL_law 1059 = .ok (.aload_n 0, 1) := dk_42 (dw rcL_law_1047 12 rfl)
theorem dL_law_1060 : decode cL_law 1060 = .ok (.iload_n 3, 1) := dk_29 (dw rcL_law_1047 13 rfl)
theorem dL_law_1061 : decode cL_law 1061 = .ok (.iconst 3, 1) := dk_6 (dw rcL_law_1047 14 rfl)
theorem dL_law_1062 : decode cL_law 1062 = .ok (.iadd, 1) := dk_96 (dw rcL_law_1047 15 rfl)
theorem dL_law_1063 : decode cL_law 1063 = .ok (.iaload, 1) := dk_46 (dw rcL_law_1047 16 rfl)
theorem dL_law_1064 : decode cL_law 1064 = .ok (.aload_n 0, 1) := dk_42 (dw rcL_law_1047 17 rfl)
theorem dL_law_1065 : decode cL_law 1065 = .ok (.iload_n 3, 1) := dk_29 (dw rcL_law_1047 18 rfl)
theorem dL_law_1066 : decode cL_law 1066 = .ok (.iconst 4, 1) := dk_7 (dw rcL_law_1047 19 rfl)
theorem dL_law_1067 : decode cL_law 1067 = .ok (.iadd, 1) := dk_96 (dw rcL_law_1047 20 rfl)
theorem dL_law_1068 : decode cL_law 1068 = .ok (.iaload, 1) := dk_46 (dw rcL_law_1047 21 rfl)
theorem dL_law_1069 : decode cL_law 1069 = .ok (.aload_n 0, 1) := dk_42 (dw rcL_law_1047 22 rfl)
theorem dL_law_1070 : decode cL_law 1070 = .ok (.iload_n 3, 1) := dk_29 (dw rcL_law_1047 23 rfl)
def rbL_law_1071 : List (Nat × List Nat) := [(1071, [8]), (1072, [96]), (1073, [46]), (1074, [182, 0, 95]), (1077, [88]), (1078, [167, 2, 51]), (1081, [43]), (1082, [42]), (1083, [29]), (1084, [4]), (1085, [96]), (1086, [46]), (1087, [42]), (1088, [29]), (1089, [5]), (1090, [96]), (1091, [46]), (1092, [42]), (1093, [29]), (1094, [6]), (1095, [96]), (1096, [46]), (1097, [42]), (1098, [29])]
theorem rcL_law_1071 : dgo (lb cL_law) 0 rbL_law_1071 = true := by decide +kernel
theorem dL_law_1071 : decode cL_law 1071 = .ok (.iconst 5, 1) := dk_8 (dw rcL_law_1071 0 rfl)
theorem dL_law_1072 : decode cL_law 1072 = .ok (.iadd, 1) := dk_96 (dw rcL_law_1071 1 rfl)
theorem dL_law_1073 : decode cL_law 1073 = .ok (.iaload, 1) := dk_46 (dw rcL_law_1071 2 rfl)
theorem dL_law_1074 : decode cL_law 1074 = .ok (.invokevirtual 95, 3) := dk_182 (dw rcL_law_1071 3 rfl) rfl
theorem dL_law_1077 : decode cL_law 1077 = .ok (.pop2, 1) := dk_88 (dw rcL_law_1071 4 rfl)
theorem dL_law_1078 : decode cL_law 1078 = .ok (.goto 563, 3) := dk_167 (dw rcL_law_1071 5 rfl) rfl
theorem dL_law_1081 : decode cL_law 1081 = .ok (.aload_n 1, 1) := dk_43 (dw rcL_law_1071 6 rfl)
theorem dL_law_1082 : decode cL_law 1082 = .ok (.aload_n 0, 1) := dk_42 (dw rcL_law_1071 7 rfl)
theorem dL_law_1083 : decode cL_law 1083 = .ok (.iload_n 3, 1) := dk_29 (dw rcL_law_1071 8 rfl)
theorem dL_law_1084 : decode cL_law 1084 = .ok (.iconst 1, 1) := dk_4 (dw rcL_law_1071 9 rfl)
theorem dL_law_1085 : decode cL_law 1085 = .ok (.iadd, 1) := dk_96 (dw rcL_law_1071 10 rfl)
theorem dL_law_1086 : decode cL_law 1086 = .ok (.iaload, 1) := dk_46 (dw rcL_law_1071 11 rfl)
theorem dL_law_1087 : decode cL_law 1087 = .ok (.aload_n 0, 1) := dk_42 (dw rcL_law_1071 12 rfl)
theorem dL_law_1088 : decode cL_law 1088 = .ok (.iload_n 3, 1) := dk_29 (dw rcL_law_1071 13 rfl)
theorem dL_law_1089 : decode cL_law 1089 = .ok (.iconst 2, 1) := dk_5 (dw rcL_law_1071 14 rfl)
theorem dL_law_1090 : decode cL_law 1090 = .ok (.iadd, 1) := dk_96 (dw rcL_law_1071 15 rfl)
theorem dL_law_1091 : decode cL_law 1091 = .ok (.iaload, 1) := dk_46 (dw rcL_law_1071 16 rfl)
theorem dL_law_1092 : decode cL_law 1092 = .ok (.aload_n 0, 1) := dk_42 (dw rcL_law_1071 17 rfl)
theorem dL_law_1093 : decode cL_law 1093 = .ok (.iload_n 3, 1) := dk_29 (dw rcL_law_1071 18 rfl)
theorem dL_law_1094 : decode cL_law 1094 = .ok (.iconst 3, 1) := dk_6 (dw rcL_law_1071 19 rfl)
theorem dL_law_1095 : decode cL_law 1095 = .ok (.iadd, 1) := dk_96 (dw rcL_law_1071 20 rfl)
theorem dL_law_1096 : decode cL_law 1096 = .ok (.iaload, 1) := dk_46 (dw rcL_law_1071 21 rfl)
theorem dL_law_1097 : decode cL_law 1097 = .ok (.aload_n 0, 1) := dk_42 (dw rcL_law_1071 22 rfl)
theorem dL_law_1098 : decode cL_law 1098 = .ok (.iload_n 3, 1) := dk_29 (dw rcL_law_1071 23 rfl)
def rbL_law_1099 : List (Nat × List Nat) := [(1099, [7]), (1100, [96]), (1101, [46]), (1102, [42]), (1103, [29]), (1104, [8]), (1105, [96]), (1106, [46]), (1107, [182, 0, 96]), (1110, [87]), (1111, [44]), (1112, [42]), (1113, [29]), (1114, [4]), (1115, [96]), (1116, [46]), (1117, [42]), (1118, [29]), (1119, [5]), (1120, [96]), (1121, [46]), (1122, [42]), (1123, [29]), (1124, [6])]
theorem rcL_law_1099 : dgo (lb cL_law) 0 rbL_law_1099 = true := by decide +kernel
theorem dL_law_1099 : decode cL_law 1099 = .ok (.iconst 4, 1) := dk_7 (dw rcL_law_1099 0 rfl)
theorem dL_law_1100 : decode cL_law 1100 = .ok (.iadd, 1) := dk_96 (dw rcL_law_1099 1 rfl)
theorem dL_law_1101 : decode cL_law 1101 = .ok (.iaload, 1) := dk_46 (dw rcL_law_1099 2 rfl)
theorem dL_law_1102 : decode cL_law 1102 = .ok (.aload_n 0, 1) := dk_42 (dw rcL_law_1099 3 rfl)
theorem dL_law_1103 : decode cL_law 1103 = .ok (.iload_n 3, 1) := dk_29 (dw rcL_law_1099 4 rfl)
theorem dL_law_1104 : decode cL_law 1104 = .ok (.iconst 5, 1) := dk_8 (dw rcL_law_1099 5 rfl)
theorem dL_law_1105 : decode cL_law 1105 = .ok (.iadd, 1) := dk_96 (dw rcL_law_1099 6 rfl)
theorem dL_law_1106 : decode cL_law 1106 = .ok (.iaload, 1) := dk_46 (dw rcL_law_1099 7 rfl)
theorem dL_law_1107 : decode cL_law 1107 = .ok (.invokevirtual 96, 3) := dk_182 (dw rcL_law_1099 8 rfl) rfl
theorem dL_law_1110 : decode cL_law 1110 = .ok (.pop, 1) := dk_87 (dw rcL_law_1099 9 rfl)
theorem dL_law_1111 : decode cL_law 1111 = .ok (.aload_n 2, 1) := dk_44 (dw rcL_law_1099 10 rfl)
theorem dL_law_1112 : decode cL_law 1112 = .ok (.aload_n 0, 1) := dk_42 (dw rcL_law_1099 11 rfl)
theorem dL_law_1113 : decode cL_law 1113 = .ok (.iload_n 3, 1) := dk_29 (dw rcL_law_1099 12 rfl)
theorem dL_law_1114 : decode cL_law 1114 = .ok (.iconst 1, 1) := dk_4 (dw rcL_law_1099 13 rfl)
theorem dL_law_1115 : decode cL_law 1115 = .ok (.iadd, 1) := dk_96 (dw rcL_law_1099 14 rfl)
theorem dL_law_1116 : decode cL_law 1116 = .ok (.iaload, 1) := dk_46 (dw rcL_law_1099 15 rfl)
theorem dL_law_1117 : decode cL_law 1117 = .ok (.aload_n 0, 1) := dk_42 (dw rcL_law_1099 16 rfl)
theorem dL_law_1118 : decode cL_law 1118 = .ok (.iload_n 3, 1) := dk_29 (dw rcL_law_1099 17 rfl)
theorem dL_law_1119 : decode cL_law 1119 = .ok (.iconst 2, 1) := dk_5 (dw rcL_law_1099 18 rfl)
theorem dL_law_1120 : decode cL_law 1120 = .ok (.iadd, 1) := dk_96 (dw rcL_law_1099 19 rfl)
theorem dL_law_1121 : decode cL_law 1121 = .ok (.iaload, 1) := dk_46 (dw rcL_law_1099 20 rfl)
theorem dL_law_1122 : decode cL_law 1122 = .ok (.aload_n 0, 1) := dk_42 (dw rcL_law_1099 21 rfl)
theorem dL_law_1123 : decode cL_law 1123 = .ok (.iload_n 3, 1) := dk_29 (dw rcL_law_1099 22 rfl)
theorem dL_law_1124 : decode cL_law 1124 = .ok (.iconst 3, 1) := dk_6 (dw rcL_law_1099 23 rfl)
def rbL_law_1125 : List (Nat × List Nat) := [(1125, [96]), (1126, [46]), (1127, [42]), (1128, [29]), (1129, [7]), (1130, [96]), (1131, [46]), (1132, [42]), (1133, [29]), (1134, [8]), (1135, [96]), (1136, [46]), (1137, [182, 0, 99]), (1140, [87]), (1141, [167, 1, 244]), (1144, [43]), (1145, [42]), (1146, [29]), (1147, [4]), (1148, [96]), (1149, [46]), (1150, [42]), (1151, [29]), (1152, [5])]
theorem rcL_law_1125 : dgo (lb cL_law) 0 rbL_law_1125 = true := by decide +kernel
theorem dL_law_1125 : decode cL_law 1125 = .ok (.iadd, 1) := dk_96 (dw rcL_law_1125 0 rfl)
theorem dL_law_1126 : decode cL_law 1126 = .ok (.iaload, 1) := dk_46 (dw rcL_law_1125 1 rfl)
theorem dL_law_1127 : decode cL_law 1127 = .ok (.aload_n 0, 1) := dk_42 (dw rcL_law_1125 2 rfl)
theorem dL_law_1128 : decode cL_law 1128 = .ok (.iload_n 3, 1) := dk_29 (dw rcL_law_1125 3 rfl)
theorem dL_law_1129 : decode cL_law 1129 = .ok (.iconst 4, 1) := dk_7 (dw rcL_law_1125 4 rfl)
theorem dL_law_1130 : decode cL_law 1130 = .ok (.iadd, 1) := dk_96 (dw rcL_law_1125 5 rfl)
theorem dL_law_1131 : decode cL_law 1131 = .ok (.iaload, 1) := dk_46 (dw rcL_law_1125 6 rfl)
theorem dL_law_1132 : decode cL_law 1132 = .ok (.aload_n 0, 1) := dk_42 (dw rcL_law_1125 7 rfl)
theorem dL_law_1133 : decode cL_law 1133 = .ok (.iload_n 3, 1) := dk_29 (dw rcL_law_1125 8 rfl)
theorem dL_law_1134 : decode cL_law 1134 = .ok (.iconst 5, 1) := dk_8 (dw rcL_law_1125 9 rfl)
theorem dL_law_1135 : decode cL_law 1135 = .ok (.iadd, 1) := dk_96 (dw rcL_law_1125 10 rfl)
theorem dL_law_1136 : decode cL_law 1136 = .ok (.iaload, 1) := dk_46 (dw rcL_law_1125 11 rfl)
theorem dL_law_1137 : decode cL_law 1137 = .ok (.invokevirtual 99, 3) := dk_182 (dw rcL_law_1125 12 rfl) rfl
theorem dL_law_1140 : decode cL_law 1140 = .ok (.pop, 1) := dk_87 (dw rcL_law_1125 13 rfl)
theorem dL_law_1141 : decode cL_law 1141 = .ok (.goto 500, 3) := dk_167 (dw rcL_law_1125 14 rfl) rfl
theorem dL_law_1144 : decode cL_law 1144 = .ok (.aload_n 1, 1) := dk_43 (dw rcL_law_1125 15 rfl)
theorem dL_law_1145 : decode cL_law 1145 = .ok (.aload_n 0, 1) := dk_42 (dw rcL_law_1125 16 rfl)
theorem dL_law_1146 : decode cL_law 1146 = .ok (.iload_n 3, 1) := dk_29 (dw rcL_law_1125 17 rfl)
theorem dL_law_1147 : decode cL_law 1147 = .ok (.iconst 1, 1) := dk_4 (dw rcL_law_1125 18 rfl)
theorem dL_law_1148 : decode cL_law 1148 = .ok (.iadd, 1) := dk_96 (dw rcL_law_1125 19 rfl)
theorem dL_law_1149 : decode cL_law 1149 = .ok (.iaload, 1) := dk_46 (dw rcL_law_1125 20 rfl)
theorem dL_law_1150 : decode cL_law 1150 = .ok (.aload_n 0, 1) := dk_42 (dw rcL_law_1125 21 rfl)
theorem dL_law_1151 : decode cL_law 1151 = .ok (.iload_n 3, 1) := dk_29 (dw rcL_law_1125 22 rfl)
theorem dL_law_1152 : decode cL_law 1152 = .ok (.iconst 2, 1) := dk_5 (dw rcL_law_1125 23 rfl)
def rbL_law_1153 : List (Nat × List Nat) := [(1153, [96]), (1154, [46]), (1155, [42]), (1156, [29]), (1157, [6]), (1158, [96]), (1159, [46]), (1160, [42]), (1161, [29]), (1162, [7]), (1163, [96]), (1164, [46]), (1165, [182, 0, 100]), (1168, [87]), (1169, [44]), (1170, [42]), (1171, [29]), (1172, [4]), (1173, [96]), (1174, [46]), (1175, [42]), (1176, [29]), (1177, [5]), (1178, [96])]
theorem rcL_law_1153 : dgo (lb cL_law) 0 rbL_law_1153 = true := by decide +kernel
theorem dL_law_1153 : decode cL_law 1153 = .ok (.iadd, 1) := dk_96 (dw rcL_law_1153 0 rfl)
theorem dL_law_1154 : decode cL_law 1154 = .ok (.iaload, 1) := dk_46 (dw rcL_law_1153 1 rfl)
theorem dL_law_1155 : decode cL_law 1155 = .ok (.aload_n 0, 1) := dk_42 (dw rcL_law_1153 2 rfl)
theorem dL_law_1156 : decode cL_law 1156 = .ok (.iload_n 3, 1) := dk_29 (dw rcL_law_1153 3 rfl)
theorem dL_law_1157 : decode cL_law 1157 = .ok (.iconst 3, 1) := dk_6 (dw rcL_law_1153 4 rfl)
theorem dL_law_1158 : decode cL_law 1158 = .ok (.iadd, 1) := dk_96 (dw rcL_law_1153 5 rfl)
theorem dL_law_1159 : decode cL_law 1159 = .ok (.iaload, 1) := dk_46 (dw rcL_law_1153 6 rfl)
theorem dL_law_1160 : decode cL_law 1160 = .ok (.aload_n 0, 1) := dk_42 (dw rcL_law_1153 7 rfl)
theorem dL_law_1161 : decode cL_law 1161 = .ok (.iload_n 3, 1) := dk_29 (dw rcL_law_1153 8 rfl)
theorem dL_law_1162 : decode cL_law 1162 = .ok (.iconst 4, 1) := dk_7 (dw rcL_law_1153 9 rfl)
theorem dL_law_1163 : decode cL_law 1163 = .ok (.iadd, 1) := dk_96 (dw rcL_law_1153 10 rfl)
theorem dL_law_1164 : decode cL_law 1164 = .ok (.iaload, 1) := dk_46 (dw rcL_law_1153 11 rfl)
theorem dL_law_1165 : decode cL_law 1165 = .ok (.invokevirtual 100, 3) := dk_182 (dw rcL_law_1153 12 rfl) rfl
theorem dL_law_1168 : decode cL_law 1168 = .ok (.pop, 1) := dk_87 (dw rcL_law_1153 13 rfl)
theorem dL_law_1169 : decode cL_law 1169 = .ok (.aload_n 2, 1) := dk_44 (dw rcL_law_1153 14 rfl)
theorem dL_law_1170 : decode cL_law 1170 = .ok (.aload_n 0, 1) := dk_42 (dw rcL_law_1153 15 rfl)
theorem dL_law_1171 : decode cL_law 1171 = .ok (.iload_n 3, 1) := dk_29 (dw rcL_law_1153 16 rfl)
theorem dL_law_1172 : decode cL_law 1172 = .ok (.iconst 1, 1) := dk_4 (dw rcL_law_1153 17 rfl)
theorem dL_law_1173 : decode cL_law 1173 = .ok (.iadd, 1) := dk_96 (dw rcL_law_1153 18 rfl)
theorem dL_law_1174 : decode cL_law 1174 = .ok (.iaload, 1) := dk_46 (dw rcL_law_1153 19 rfl)
theorem dL_law_1175 : decode cL_law 1175 = .ok (.aload_n 0, 1) := dk_42 (dw rcL_law_1153 20 rfl)
theorem dL_law_1176 : decode cL_law 1176 = .ok (.iload_n 3, 1) := dk_29 (dw rcL_law_1153 21 rfl)
theorem dL_law_1177 : decode cL_law 1177 = .ok (.iconst 2, 1) := dk_5 (dw rcL_law_1153 22 rfl)
theorem dL_law_1178 : decode cL_law 1178 = .ok (.iadd, 1) := dk_96 (dw rcL_law_1153 23 rfl)
def rbL_law_1179 : List (Nat × List Nat) := [(1179, [46]), (1180, [42]), (1181, [29]), (1182, [6]), (1183, [96]), (1184, [46]), (1185, [42]), (1186, [29]), (1187, [7]), (1188, [96]), (1189, [46]), (1190, [182, 0, 103]), (1193, [87]), (1194, [167, 1, 191])]
theorem rcL_law_1179 : dgo (lb cL_law) 0 rbL_law_1179 = true := by decide +kernel
theorem dL_law_1179 : decode cL_law 1179 = .ok (.iaload, 1) := dk_46 (dw rcL_law_1179 0 rfl)
theorem dL_law_1180 : decode cL_law 1180 = .ok (.aload_n 0, 1) := dk_42 (dw rcL_law_1179 1 rfl)
theorem dL_law_1181 : decode cL_law 1181 = .ok (.iload_n 3, 1) := dk_29 (dw rcL_law_1179 2 rfl)
theorem dL_law_1182 : decode cL_law 1182 = .ok (.iconst 3, 1) := dk_6 (dw rcL_law_1179 3 rfl)
theorem dL_law_1183 : decode cL_law 1183 = .ok (.iadd, 1) := dk_96 (dw rcL_law_1179 4 rfl)
theorem dL_law_1184 : decode cL_law 1184 = .ok (.iaload, 1) := dk_46 (dw rcL_law_1179 5 rfl)
theorem dL_law_1185 : decode cL_law 1185 = .ok (.aload_n 0, 1) := dk_42 (dw rcL_law_1179 6 rfl)
theorem dL_law_1186 : decode cL_law 1186 = .ok (.iload_n 3, 1) := dk_29 (dw rcL_law_1179 7 rfl)
theorem dL_law_1187 : decode cL_law 1187 = .ok (.iconst 4, 1) := dk_7 (dw rcL_law_1179 8 rfl)
theorem dL_law_1188 : decode cL_law 1188 = .ok (.iadd, 1) := dk_96 (dw rcL_law_1179 9 rfl)
theorem dL_law_1189 : decode cL_law 1189 = .ok (.iaload, 1) := dk_46 (dw rcL_law_1179 10 rfl)
theorem dL_law_1190 : decode cL_law 1190 = .ok (.invokevirtual 103, 3) := dk_182 (dw rcL_law_1179 11 rfl) rfl
theorem dL_law_1193 : decode cL_law 1193 = .ok (.pop, 1) := dk_87 (dw rcL_law_1179 12 rfl)
theorem dL_law_1194 : decode cL_law 1194 = .ok (.goto 447, 3) := dk_167 (dw rcL_law_1179 13 rfl) rfl
set_option maxHeartbeats 4000000 in
set_option maxRecDepth 100000 in
theorem law_15 {p : Program} {l : Launch} {e : Env} {s : State} {m : MethodId} {below : List Frame} {meth : Method} {c : Code} {D : va_G} {k : KT} {A : Nat → Prop} {a : Nat → Nat} {z : SK} {b L : Nat} {xs : Nat → Int32} (hL : L ≤ 3072) (C0 : lw_At p s m meth c b L xs) (hK : cK D k s) (hZ : Sx A z s) (hbA : ¬ A b) {G : GS} {i0 : Int32} (hi0 : 0 ≤ i0.toInt) (hi6 : i0.toInt + 6 ≤ L) (hI : LI G) (hB_G : Bd G) {H : Heap} {locs : List Loc} {ls : Array Slot} (hW : Wd D k A a G H) (hS : va_S A s.heap H locs) (hl : lv_has ls 4 [(0, .ref b), (1, .ref (a 0)), (2, .ref (a 66)), (3, .int i0)]) (K : ∀ (G1 : GS) (H1 : Heap) (locs1 : List Loc) (ls1 : Array Slot), LI G1 → Bd G1 → Wd D k A a G1 H1 → va_S A s.heap H1 locs1 → lv_has ls1 4 [(0, .ref b), (1, .ref (a 0)), (2, .ref (a 66)), (3, .int i0)] → W p l e room_1 s m #[Value.ref b] below meth c H1 locs1 119 46443 (lw_Z below #[Value.ref b] s) (F0 m 1641 ls1 [])) : W p l e room_1 s m #[Value.ref b] below meth c H locs 119 46443 (lw_Z below #[Value.ref b] s) (F0 m 859 ls []) := by
  obtain ⟨hx, hb, hr, hml, hown, hts, hX, hbl, hlocks, hgv⟩ := id C0
  have hown : s.vm.findClass RL = some m.cls := hown
  have hgd : ∀ w ∈ gd, w ∈ lw_tbl := fun w h => (List.mem_filter.mp h).1
  have hg : ∀ w ∈ gd, w.before #[Value.ref b] s = true := fun w h => hts w (hgd w h)
  rcases hI with ⟨hv_0_0, hv_0_1, hv_6_4, hj0, hj1, hj2, hj3, hj4, hj5, hj6, hj7, hj8, hj9, hj10, hj11, hj12⟩ | ⟨hv_0_0, hv_0_1, hv_6_4, hj0, hj1, hj2, hj3, hj4, hj5, hj6, hj7, hj8, hj9, hj10, hj11, hj12⟩
  · skip
    obtain ⟨p0, hp0⟩ : ∃ y, y = xs (i0 + 1).toNatClampNeg := ⟨_, rfl⟩
    obtain ⟨p1, hp1⟩ : ∃ y, y = xs (i0 + 2).toNatClampNeg := ⟨_, rfl⟩
    obtain ⟨p2, hp2⟩ : ∃ y, y = xs (i0 + 3).toNatClampNeg := ⟨_, rfl⟩
    obtain ⟨p3, hp3⟩ : ∃ y, y = xs (i0 + 4).toNatClampNeg := ⟨_, rfl⟩
    obtain ⟨p4, hp4⟩ : ∃ y, y = xs (i0 + 5).toNatClampNeg := ⟨_, rfl⟩
    refine lv_aload_n hx hb dL_law_859 rfl (lv_at hl 1 rfl) ?_
    refine ld_1 hL hi0 hi6 hx hb hX hbl hbA hS hl dL_law_860 dL_law_861 dL_law_862 dL_law_863 dL_law_864 hp0 ?_
    refine ld_2 hL hi0 hi6 hx hb hX hbl hbA hS hl dL_law_865 dL_law_866 dL_law_867 dL_law_868 dL_law_869 hp1 ?_
    refine ld_3 hL hi0 hi6 hx hb hX hbl hbA hS hl dL_law_870 dL_law_871 dL_law_872 dL_law_873 dL_law_874 hp2 ?_
    refine ld_4 hL hi0 hi6 hx hb hX hbl hbA hS hl dL_law_875 dL_law_876 dL_law_877 dL_law_878 dL_law_879 hp3 ?_
    refine S_calli (va_runV (As := [.int p0, .int p1, .int p2, .int p3]) (rest := []) ⟨hx, hb, hml, hown, hts⟩ (k_Wbegin l D k A a z G p0 p1 p2 p3 ) (cwV 4 hts (gd_V hgd m1072 m1073 m1074 m117 m1075) rfl rfl rfl hd_X11_begin ⟨Nat.le_of_ble_eq_true rfl, Nat.le_of_ble_eq_true rfl⟩) (pre_W hW hB_G hK hZ hS kd_0 rfl) rfl rfl hl.1 rfl (lv_room (Nat.le_of_ble_eq_true rfl)) dL_law_880 ⟨Nat.le_of_ble_eq_true rfl, Nat.le_of_ble_eq_true rfl⟩) hS (fun r_1 G_2 H locs hpo hW hS => ?_)
    have hX_5 : P_Wbegin p0 p1 p2 p3 G r_1 G_2 := hpo
    obtain ⟨hB_G_2, hq_3, -⟩ := hpo
    refine lv_pop hx hb dL_law_883 rfl ?_
    refine lv_aload_n hx hb dL_law_884 rfl (lv_at hl 2 rfl) ?_
    refine ld_1 hL hi0 hi6 hx hb hX hbl hbA hS hl dL_law_885 dL_law_886 dL_law_887 dL_law_888 dL_law_889 hp0 ?_
    refine ld_2 hL hi0 hi6 hx hb hX hbl hbA hS hl dL_law_890 dL_law_891 dL_law_892 dL_law_893 dL_law_894 hp1 ?_
    refine ld_3 hL hi0 hi6 hx hb hX hbl hbA hS hl dL_law_895 dL_law_896 dL_law_897 dL_law_898 dL_law_899 hp2 ?_
    refine ld_4 hL hi0 hi6 hx hb hX hbl hbA hS hl dL_law_900 dL_law_901 dL_law_902 dL_law_903 dL_law_904 hp3 ?_
    refine S_calli (va_runV (As := [.int p0, .int p1, .int p2, .int p3]) (rest := []) ⟨hx, hb, hml, hown, hts⟩ (n_begin l D k A a z G_2 p0 p1 p2 p3 ) (cwV 4 hts (gd_V hgd m1916 m1917 m1918 m131 m1919) rfl rfl rfl hd_X12_begin ⟨Nat.le_of_ble_eq_true rfl, Nat.le_of_ble_eq_true rfl⟩) (pre_W hW hB_G_2 hK hZ hS kd_66 rfl) rfl rfl hl.1 rfl (lv_room (Nat.le_of_ble_eq_true rfl)) dL_law_905 ⟨Nat.le_of_ble_eq_true rfl, Nat.le_of_ble_eq_true rfl⟩) hS (fun r_6 G_7 H locs hpo hW hS => ?_)
    have hX_10 : Q_begin p0 p1 p2 p3 G_2 r_6 G_7 := hpo
    obtain ⟨hB_G_7, hq_8, -⟩ := hpo
    refine lv_pop hx hb dL_law_908 rfl ?_
    refine lv_goto (tgt := 1641) hx hb dL_law_909 rfl ?_
    have fr_11 : Fr [] [] G G_7 := (Fr.call9 (rs := []) (fs := []) (Fr.call9 (rs := []) (fs := []) Fr.rf hq_3 rfl rfl) hq_8 rfl rfl)
    have g_12 : gIA G_7 = gIA G := gIA_fr fr_11 (gr_q rfl) (gf_q rfl)
    exact K G_7 _ _ _ (Or.inl (LI_of_1 (LIn_fr_1 (LIn_fr_1 (show LIn_1 G from ⟨hv_0_0, hv_0_1, hv_6_4, hj0, hj1, hj2, hj3, hj4, hj5, hj6, hj7, hj8, hj9, hj10, hj11⟩) hq_3 (by decide +kernel)) hq_8 (by decide +kernel)) (by omega))) hB_G_7 hW hS (lv_sub hl [0, 1, 2, 3] rfl)
  · skip
    obtain ⟨p0, hp0⟩ : ∃ y, y = xs (i0 + 1).toNatClampNeg := ⟨_, rfl⟩
    obtain ⟨p1, hp1⟩ : ∃ y, y = xs (i0 + 2).toNatClampNeg := ⟨_, rfl⟩
    obtain ⟨p2, hp2⟩ : ∃ y, y = xs (i0 + 3).toNatClampNeg := ⟨_, rfl⟩
    obtain ⟨p3, hp3⟩ : ∃ y, y = xs (i0 + 4).toNatClampNeg := ⟨_, rfl⟩
    obtain ⟨p4, hp4⟩ : ∃ y, y = xs (i0 + 5).toNatClampNeg := ⟨_, rfl⟩
    refine lv_aload_n hx hb dL_law_859 rfl (lv_at hl 1 rfl) ?_
    refine ld_1 hL hi0 hi6 hx hb hX hbl hbA hS hl dL_law_860 dL_law_861 dL_law_862 dL_law_863 dL_law_864 hp0 ?_
    refine ld_2 hL hi0 hi6 hx hb hX hbl hbA hS hl dL_law_865 dL_law_866 dL_law_867 dL_law_868 dL_law_869 hp1 ?_
    refine ld_3 hL hi0 hi6 hx hb hX hbl hbA hS hl dL_law_870 dL_law_871 dL_law_872 dL_law_873 dL_law_874 hp2 ?_
    refine ld_4 hL hi0 hi6 hx hb hX hbl hbA hS hl dL_law_875 dL_law_876 dL_law_877 dL_law_878 dL_law_879 hp3 ?_
    refine S_calli (va_runV (As := [.int p0, .int p1, .int p2, .int p3]) (rest := []) ⟨hx, hb, hml, hown, hts⟩ (k_Wbegin l D k A a z G p0 p1 p2 p3 ) (cwV 4 hts (gd_V hgd m1072 m1073 m1074 m117 m1075) rfl rfl rfl hd_X11_begin ⟨Nat.le_of_ble_eq_true rfl, Nat.le_of_ble_eq_true rfl⟩) (pre_W hW hB_G hK hZ hS kd_0 rfl) rfl rfl hl.1 rfl (lv_room (Nat.le_of_ble_eq_true rfl)) dL_law_880 ⟨Nat.le_of_ble_eq_true rfl, Nat.le_of_ble_eq_true rfl⟩) hS (fun r_1 G_2 H locs hpo hW hS => ?_)
    have hX_5 : P_Wbegin p0 p1 p2 p3 G r_1 G_2 := hpo
    obtain ⟨hB_G_2, hq_3, -⟩ := hpo
    refine lv_pop hx hb dL_law_883 rfl ?_
    refine lv_aload_n hx hb dL_law_884 rfl (lv_at hl 2 rfl) ?_
    refine ld_1 hL hi0 hi6 hx hb hX hbl hbA hS hl dL_law_885 dL_law_886 dL_law_887 dL_law_888 dL_law_889 hp0 ?_
    refine ld_2 hL hi0 hi6 hx hb hX hbl hbA hS hl dL_law_890 dL_law_891 dL_law_892 dL_law_893 dL_law_894 hp1 ?_
    refine ld_3 hL hi0 hi6 hx hb hX hbl hbA hS hl dL_law_895 dL_law_896 dL_law_897 dL_law_898 dL_law_899 hp2 ?_
    refine ld_4 hL hi0 hi6 hx hb hX hbl hbA hS hl dL_law_900 dL_law_901 dL_law_902 dL_law_903 dL_law_904 hp3 ?_
    refine S_calli (va_runV (As := [.int p0, .int p1, .int p2, .int p3]) (rest := []) ⟨hx, hb, hml, hown, hts⟩ (n_begin l D k A a z G_2 p0 p1 p2 p3 ) (cwV 4 hts (gd_V hgd m1916 m1917 m1918 m131 m1919) rfl rfl rfl hd_X12_begin ⟨Nat.le_of_ble_eq_true rfl, Nat.le_of_ble_eq_true rfl⟩) (pre_W hW hB_G_2 hK hZ hS kd_66 rfl) rfl rfl hl.1 rfl (lv_room (Nat.le_of_ble_eq_true rfl)) dL_law_905 ⟨Nat.le_of_ble_eq_true rfl, Nat.le_of_ble_eq_true rfl⟩) hS (fun r_6 G_7 H locs hpo hW hS => ?_)
    have hX_10 : Q_begin p0 p1 p2 p3 G_2 r_6 G_7 := hpo
    obtain ⟨hB_G_7, hq_8, -⟩ := hpo
    refine lv_pop hx hb dL_law_908 rfl ?_
    refine lv_goto (tgt := 1641) hx hb dL_law_909 rfl ?_
    have fr_11 : Fr [] [] G G_7 := (Fr.call9 (rs := []) (fs := []) (Fr.call9 (rs := []) (fs := []) Fr.rf hq_3 rfl rfl) hq_8 rfl rfl)
    have g_12 : gIB G_7 = gIB G := gIB_fr fr_11 (gr_q rfl) (gf_q rfl)
    exact K G_7 _ _ _ (Or.inr (LI_of_2 (LIn_fr_2 (LIn_fr_2 (show LIn_2 G from ⟨hv_0_0, hv_0_1, hv_6_4, hj0, hj1, hj2, hj3, hj4, hj5, hj6, hj7, hj8, hj9, hj10, hj11⟩) hq_3 (by decide +kernel)) hq_8 (by decide +kernel)) (by omega))) hB_G_7 hW hS (lv_sub hl [0, 1, 2, 3] rfl)

set_option maxHeartbeats 4000000 in
set_option maxRecDepth 100000 in
theorem law_16 {p : Program} {l : Launch} {e : Env} {s : State} {m : MethodId} {below : List Frame} {meth : Method} {c : Code} {D : va_G} {k : KT} {A : Nat → Prop} {a : Nat → Nat} {z : SK} {b L : Nat} {xs : Nat → Int32} (hL : L ≤ 3072) (C0 : lw_At p s m meth c b L xs) (hK : cK D k s) (hZ : Sx A z s) (hbA : ¬ A b) {G : GS} {i0 : Int32} (hi0 : 0 ≤ i0.toInt) (hi6 : i0.toInt + 6 ≤ L) (hI : LI G) (hB_G : Bd G) {H : Heap} {locs : List Loc} {ls : Array Slot} (hW : Wd D k A a G H) (hS : va_S A s.heap H locs) (hl : lv_has ls 4 [(0, .ref b), (1, .ref (a 0)), (2, .ref (a 66)), (3, .int i0)]) (K : ∀ (G1 : GS) (H1 : Heap) (locs1 : List Loc) (ls1 : Array Slot), LI G1 → Bd G1 → Wd D k A a G1 H1 → va_S A s.heap H1 locs1 → lv_has ls1 4 [(0, .ref b), (1, .ref (a 0)), (2, .ref (a 66)), (3, .int i0)] → W p l e room_1 s m #[Value.ref b] below meth c H1 locs1 119 46443 (lw_Z below #[Value.ref b] s) (F0 m 1641 ls1 [])) : W p l e room_1 s m #[Value.ref b] below meth c H locs 119 46443 (lw_Z below #[Value.ref b] s) (F0 m 912 ls []) := by
  obtain ⟨hx, hb, hr, hml, hown, hts, hX, hbl, hlocks, hgv⟩ := id C0
  have hown : s.vm.findClass RL = some m.cls := hown
  have hgd : ∀ w ∈ gd, w ∈ lw_tbl := fun w h => (List.mem_filter.mp h).1
  have hg : ∀ w ∈ gd, w.before #[Value.ref b] s = true := fun w h => hts w (hgd w h)
  rcases hI with ⟨hv_0_0, hv_0_1, hv_6_4, hj0, hj1, hj2, hj3, hj4, hj5, hj6, hj7, hj8, hj9, hj10, hj11, hj12⟩ | ⟨hv_0_0, hv_0_1, hv_6_4, hj0, hj1, hj2, hj3, hj4, hj5, hj6, hj7, hj8, hj9, hj10, hj11, hj12⟩
  · skip
    obtain ⟨p0, hp0⟩ : ∃ y, y = xs (i0 + 1).toNatClampNeg := ⟨_, rfl⟩
    obtain ⟨p1, hp1⟩ : ∃ y, y = xs (i0 + 2).toNatClampNeg := ⟨_, rfl⟩
    obtain ⟨p2, hp2⟩ : ∃ y, y = xs (i0 + 3).toNatClampNeg := ⟨_, rfl⟩
    obtain ⟨p3, hp3⟩ : ∃ y, y = xs (i0 + 4).toNatClampNeg := ⟨_, rfl⟩
    obtain ⟨p4, hp4⟩ : ∃ y, y = xs (i0 + 5).toNatClampNeg := ⟨_, rfl⟩
    refine lv_aload_n hx hb dL_law_912 rfl (lv_at hl 1 rfl) ?_
    refine ld_1 hL hi0 hi6 hx hb hX hbl hbA hS hl dL_law_913 dL_law_914 dL_law_915 dL_law_916 dL_law_917 hp0 ?_
    refine ld_2 hL hi0 hi6 hx hb hX hbl hbA hS hl dL_law_918 dL_law_919 dL_law_920 dL_law_921 dL_law_922 hp1 ?_
    refine ld_3 hL hi0 hi6 hx hb hX hbl hbA hS hl dL_law_923 dL_law_924 dL_law_925 dL_law_926 dL_law_927 hp2 ?_
    refine ld_4 hL hi0 hi6 hx hb hX hbl hbA hS hl dL_law_928 dL_law_929 dL_law_930 dL_law_931 dL_law_932 hp3 ?_
    refine ld_5 hL hi0 hi6 hx hb hX hbl hbA hS hl dL_law_933 dL_law_934 dL_law_935 dL_law_936 dL_law_937 hp4 ?_
    refine S_calll (va_runV (As := [.int p0, .int p1, .int p2, .int p3, .int p4]) (rest := []) ⟨hx, hb, hml, hown, hts⟩ (k_Wsuits l D k A a z G p0 p1 p2 p3 p4 ) (cwV 5 hts (gd_V hgd m1083 m1084 m1085 m117 m1086) rfl rfl rfl hd_X11_suits ⟨Nat.le_of_ble_eq_true rfl, Nat.le_of_ble_eq_true rfl⟩) (pre_W hW hB_G hK hZ hS kd_0 rfl) rfl rfl hl.1 rfl (lv_room (Nat.le_of_ble_eq_true rfl)) dL_law_938 ⟨Nat.le_of_ble_eq_true rfl, Nat.le_of_ble_eq_true rfl⟩) hS (fun r_1 G_2 H locs hpo hW hS => ?_)
    have hX_5 : P_Wsuits p0 p1 p2 p3 p4 G r_1 G_2 := hpo
    obtain ⟨hB_G_2, hq_3, -⟩ := hpo
    refine lv_pop2_2 hx hb dL_law_941 rfl ?_
    refine lv_aload_n hx hb dL_law_942 rfl (lv_at hl 2 rfl) ?_
    refine ld_1 hL hi0 hi6 hx hb hX hbl hbA hS hl dL_law_943 dL_law_944 dL_law_945 dL_law_946 dL_law_947 hp0 ?_
    refine ld_2 hL hi0 hi6 hx hb hX hbl hbA hS hl dL_law_948 dL_law_949 dL_law_950 dL_law_951 dL_law_952 hp1 ?_
    refine ld_3 hL hi0 hi6 hx hb hX hbl hbA hS hl dL_law_953 dL_law_954 dL_law_955 dL_law_956 dL_law_957 hp2 ?_
    refine ld_4 hL hi0 hi6 hx hb hX hbl hbA hS hl dL_law_958 dL_law_959 dL_law_960 dL_law_961 dL_law_962 hp3 ?_
    refine ld_5 hL hi0 hi6 hx hb hX hbl hbA hS hl dL_law_963 dL_law_964 dL_law_965 dL_law_966 dL_law_967 hp4 ?_
    refine S_calll (va_runV (As := [.int p0, .int p1, .int p2, .int p3, .int p4]) (rest := []) ⟨hx, hb, hml, hown, hts⟩ (n_suits l D k A a z G_2 p0 p1 p2 p3 p4 ) (cwV 5 hts (gd_V hgd m1923 m1924 m1925 m131 m1926) rfl rfl rfl hd_X12_suits ⟨Nat.le_of_ble_eq_true rfl, Nat.le_of_ble_eq_true rfl⟩) (pre_W hW hB_G_2 hK hZ hS kd_66 rfl) rfl rfl hl.1 rfl (lv_room (Nat.le_of_ble_eq_true rfl)) dL_law_968 ⟨Nat.le_of_ble_eq_true rfl, Nat.le_of_ble_eq_true rfl⟩) hS (fun r_6 G_7 H locs hpo hW hS => ?_)
    have hX_10 : Q_suits p0 p1 p2 p3 p4 G_2 r_6 G_7 := hpo
    obtain ⟨hB_G_7, hq_8, -⟩ := hpo
    refine lv_pop2_2 hx hb dL_law_971 rfl ?_
    refine lv_goto (tgt := 1641) hx hb dL_law_972 rfl ?_
    have fr_11 : Fr [] [] G G_7 := (Fr.call9 (rs := []) (fs := []) (Fr.call9 (rs := []) (fs := []) Fr.rf hq_3 rfl rfl) hq_8 rfl rfl)
    have g_12 : gIA G_7 = gIA G := gIA_fr fr_11 (gr_q rfl) (gf_q rfl)
    exact K G_7 _ _ _ (Or.inl (LI_of_1 (LIn_fr_1 (LIn_fr_1 (show LIn_1 G from ⟨hv_0_0, hv_0_1, hv_6_4, hj0, hj1, hj2, hj3, hj4, hj5, hj6, hj7, hj8, hj9, hj10, hj11⟩) hq_3 (by decide +kernel)) hq_8 (by decide +kernel)) (by omega))) hB_G_7 hW hS (lv_sub hl [0, 1, 2, 3] rfl)
  · skip
    obtain ⟨p0, hp0⟩ : ∃ y, y = xs (i0 + 1).toNatClampNeg := ⟨_, rfl⟩
    obtain ⟨p1, hp1⟩ : ∃ y, y = xs (i0 + 2).toNatClampNeg := ⟨_, rfl⟩
    obtain ⟨p2, hp2⟩ : ∃ y, y = xs (i0 + 3).toNatClampNeg := ⟨_, rfl⟩
    obtain ⟨p3, hp3⟩ : ∃ y, y = xs (i0 + 4).toNatClampNeg := ⟨_, rfl⟩
    obtain ⟨p4, hp4⟩ : ∃ y, y = xs (i0 + 5).toNatClampNeg := ⟨_, rfl⟩
    refine lv_aload_n hx hb dL_law_912 rfl (lv_at hl 1 rfl) ?_
    refine ld_1 hL hi0 hi6 hx hb hX hbl hbA hS hl dL_law_913 dL_law_914 dL_law_915 dL_law_916 dL_law_917 hp0 ?_
    refine ld_2 hL hi0 hi6 hx hb hX hbl hbA hS hl dL_law_918 dL_law_919 dL_law_920 dL_law_921 dL_law_922 hp1 ?_
    refine ld_3 hL hi0 hi6 hx hb hX hbl hbA hS hl dL_law_923 dL_law_924 dL_law_925 dL_law_926 dL_law_927 hp2 ?_
    refine ld_4 hL hi0 hi6 hx hb hX hbl hbA hS hl dL_law_928 dL_law_929 dL_law_930 dL_law_931 dL_law_932 hp3 ?_
    refine ld_5 hL hi0 hi6 hx hb hX hbl hbA hS hl dL_law_933 dL_law_934 dL_law_935 dL_law_936 dL_law_937 hp4 ?_
    refine S_calll (va_runV (As := [.int p0, .int p1, .int p2, .int p3, .int p4]) (rest := []) ⟨hx, hb, hml, hown, hts⟩ (k_Wsuits l D k A a z G p0 p1 p2 p3 p4 ) (cwV 5 hts (gd_V hgd m1083 m1084 m1085 m117 m1086) rfl rfl rfl hd_X11_suits ⟨Nat.le_of_ble_eq_true rfl, Nat.le_of_ble_eq_true rfl⟩) (pre_W hW hB_G hK hZ hS kd_0 rfl) rfl rfl hl.1 rfl (lv_room (Nat.le_of_ble_eq_true rfl)) dL_law_938 ⟨Nat.le_of_ble_eq_true rfl, Nat.le_of_ble_eq_true rfl⟩) hS (fun r_1 G_2 H locs hpo hW hS => ?_)
    have hX_5 : P_Wsuits p0 p1 p2 p3 p4 G r_1 G_2 := hpo
    obtain ⟨hB_G_2, hq_3, -⟩ := hpo
    refine lv_pop2_2 hx hb dL_law_941 rfl ?_
    refine lv_aload_n hx hb dL_law_942 rfl (lv_at hl 2 rfl) ?_
    refine ld_1 hL hi0 hi6 hx hb hX hbl hbA hS hl dL_law_943 dL_law_944 dL_law_945 dL_law_946 dL_law_947 hp0 ?_
    refine ld_2 hL hi0 hi6 hx hb hX hbl hbA hS hl dL_law_948 dL_law_949 dL_law_950 dL_law_951 dL_law_952 hp1 ?_
    refine ld_3 hL hi0 hi6 hx hb hX hbl hbA hS hl dL_law_953 dL_law_954 dL_law_955 dL_law_956 dL_law_957 hp2 ?_
    refine ld_4 hL hi0 hi6 hx hb hX hbl hbA hS hl dL_law_958 dL_law_959 dL_law_960 dL_law_961 dL_law_962 hp3 ?_
    refine ld_5 hL hi0 hi6 hx hb hX hbl hbA hS hl dL_law_963 dL_law_964 dL_law_965 dL_law_966 dL_law_967 hp4 ?_
    refine S_calll (va_runV (As := [.int p0, .int p1, .int p2, .int p3, .int p4]) (rest := []) ⟨hx, hb, hml, hown, hts⟩ (n_suits l D k A a z G_2 p0 p1 p2 p3 p4 ) (cwV 5 hts (gd_V hgd m1923 m1924 m1925 m131 m1926) rfl rfl rfl hd_X12_suits ⟨Nat.le_of_ble_eq_true rfl, Nat.le_of_ble_eq_true rfl⟩) (pre_W hW hB_G_2 hK hZ hS kd_66 rfl) rfl rfl hl.1 rfl (lv_room (Nat.le_of_ble_eq_true rfl)) dL_law_968 ⟨Nat.le_of_ble_eq_true rfl, Nat.le_of_ble_eq_true rfl⟩) hS (fun r_6 G_7 H locs hpo hW hS => ?_)
    have hX_10 : Q_suits p0 p1 p2 p3 p4 G_2 r_6 G_7 := hpo
    obtain ⟨hB_G_7, hq_8, -⟩ := hpo
    refine lv_pop2_2 hx hb dL_law_971 rfl ?_
    refine lv_goto (tgt := 1641) hx hb dL_law_972 rfl ?_
    have fr_11 : Fr [] [] G G_7 := (Fr.call9 (rs := []) (fs := []) (Fr.call9 (rs := []) (fs := []) Fr.rf hq_3 rfl rfl) hq_8 rfl rfl)
    have g_12 : gIB G_7 = gIB G := gIB_fr fr_11 (gr_q rfl) (gf_q rfl)
    exact K G_7 _ _ _ (Or.inr (LI_of_2 (LIn_fr_2 (LIn_fr_2 (show LIn_2 G from ⟨hv_0_0, hv_0_1, hv_6_4, hj0, hj1, hj2, hj3, hj4, hj5, hj6, hj7, hj8, hj9, hj10, hj11⟩) hq_3 (by decide +kernel)) hq_8 (by decide +kernel)) (by omega))) hB_G_7 hW hS (lv_sub hl [0, 1, 2, 3] rfl)

set_option maxHeartbeats 4000000 in
set_option maxRecDepth 100000 in
theorem law_17 {p : Program} {l : Launch} {e : Env} {s : State} {m : MethodId} {below : List Frame} {meth : Method} {c : Code} {D : va_G} {k : KT} {A : Nat → Prop} {a : Nat → Nat} {z : SK} {b L : Nat} {xs : Nat → Int32} (hL : L ≤ 3072) (C0 : lw_At p s m meth c b L xs) (hK : cK D k s) (hZ : Sx A z s) (hbA : ¬ A b) {G : GS} {i0 : Int32} (hi0 : 0 ≤ i0.toInt) (hi6 : i0.toInt + 6 ≤ L) (hI : LI G) (hB_G : Bd G) {H : Heap} {locs : List Loc} {ls : Array Slot} (hW : Wd D k A a G H) (hS : va_S A s.heap H locs) (hl : lv_has ls 4 [(0, .ref b), (1, .ref (a 0)), (2, .ref (a 66)), (3, .int i0)]) (K : ∀ (G1 : GS) (H1 : Heap) (locs1 : List Loc) (ls1 : Array Slot), LI G1 → Bd G1 → Wd D k A a G1 H1 → va_S A s.heap H1 locs1 → lv_has ls1 4 [(0, .ref b), (1, .ref (a 0)), (2, .ref (a 66)), (3, .int i0)] → W p l e room_1 s m #[Value.ref b] below meth c H1 locs1 119 46443 (lw_Z below #[Value.ref b] s) (F0 m 1641 ls1 [])) : W p l e room_1 s m #[Value.ref b] below meth c H locs 119 46443 (lw_Z below #[Value.ref b] s) (F0 m 975 ls []) := by
  obtain ⟨hx, hb, hr, hml, hown, hts, hX, hbl, hlocks, hgv⟩ := id C0
  have hown : s.vm.findClass RL = some m.cls := hown
  have hgd : ∀ w ∈ gd, w ∈ lw_tbl := fun w h => (List.mem_filter.mp h).1
  have hg : ∀ w ∈ gd, w.before #[Value.ref b] s = true := fun w h => hts w (hgd w h)
  rcases hI with ⟨hv_0_0, hv_0_1, hv_6_4, hj0, hj1, hj2, hj3, hj4, hj5, hj6, hj7, hj8, hj9, hj10, hj11, hj12⟩ | ⟨hv_0_0, hv_0_1, hv_6_4, hj0, hj1, hj2, hj3, hj4, hj5, hj6, hj7, hj8, hj9, hj10, hj11, hj12⟩
  · skip
    obtain ⟨p0, hp0⟩ : ∃ y, y = xs (i0 + 1).toNatClampNeg := ⟨_, rfl⟩
    obtain ⟨p1, hp1⟩ : ∃ y, y = xs (i0 + 2).toNatClampNeg := ⟨_, rfl⟩
    obtain ⟨p2, hp2⟩ : ∃ y, y = xs (i0 + 3).toNatClampNeg := ⟨_, rfl⟩
    obtain ⟨p3, hp3⟩ : ∃ y, y = xs (i0 + 4).toNatClampNeg := ⟨_, rfl⟩
    obtain ⟨p4, hp4⟩ : ∃ y, y = xs (i0 + 5).toNatClampNeg := ⟨_, rfl⟩
    refine lv_aload_n hx hb dL_law_975 rfl (lv_at hl 1 rfl) ?_
    refine ld_1 hL hi0 hi6 hx hb hX hbl hbA hS hl dL_law_976 dL_law_977 dL_law_978 dL_law_979 dL_law_980 hp0 ?_
    refine ld_2 hL hi0 hi6 hx hb hX hbl hbA hS hl dL_law_981 dL_law_982 dL_law_983 dL_law_984 dL_law_985 hp1 ?_
    refine ld_3 hL hi0 hi6 hx hb hX hbl hbA hS hl dL_law_986 dL_law_987 dL_law_988 dL_law_989 dL_law_990 hp2 ?_
    refine S_calli (va_runV (As := [.int p0, .int p1, .int p2]) (rest := []) ⟨hx, hb, hml, hown, hts⟩ (k_Wkeeps_1 l D k A a z G p0 p1 p2 hv_0_0 hv_0_1 hv_6_4) (cwV 3 hts (gd_V hgd m1087 m1088 m1089 m117 m1090) rfl rfl rfl hd_X11_keeps ⟨Nat.le_of_ble_eq_true rfl, Nat.le_of_ble_eq_true rfl⟩) (pre_W hW hB_G hK hZ hS kd_0 rfl) rfl rfl hl.1 rfl (lv_room (Nat.le_of_ble_eq_true rfl)) dL_law_991 ⟨Nat.le_of_ble_eq_true rfl, Nat.le_of_ble_eq_true rfl⟩) hS (fun r_1 G_2 H locs hpo hW hS => ?_)
    have hX_5 : P_Wkeeps_1 p0 p1 p2 G r_1 G_2 := hpo
    obtain ⟨hB_G_2, hq_3, -⟩ := hpo
    refine lv_pop hx hb dL_law_994 rfl ?_
    refine lv_aload_n hx hb dL_law_995 rfl (lv_at hl 2 rfl) ?_
    refine ld_1 hL hi0 hi6 hx hb hX hbl hbA hS hl dL_law_996 dL_law_997 dL_law_998 dL_law_999 dL_law_1000 hp0 ?_
    refine ld_2 hL hi0 hi6 hx hb hX hbl hbA hS hl dL_law_1001 dL_law_1002 dL_law_1003 dL_law_1004 dL_law_1005 hp1 ?_
    refine ld_3 hL hi0 hi6 hx hb hX hbl hbA hS hl dL_law_1006 dL_law_1007 dL_law_1008 dL_law_1009 dL_law_1010 hp2 ?_
    have fr_6 : Fr [37, 38, 39, 40, 42, 43, 44, 45, 48, 49, 50, 51] [(6, 3), (7, 1), (7, 2), (7, 3), (7, 4), (7, 5), (7, 6), (7, 7), (9, 2), (9, 3), (19, 2), (19, 3)] G G_2 := (Fr.call9 (rs := [37, 38, 39, 40, 42, 43, 44, 45, 48, 49, 50, 51]) (fs := [(6, 3), (7, 1), (7, 2), (7, 3), (7, 4), (7, 5), (7, 6), (7, 7), (9, 2), (9, 3), (19, 2), (19, 3)]) Fr.rf hq_3 rfl rfl)
    have g_7 : gP G_2 = gP G := gP_fr fr_6 (gr_q rfl) (gf_q rfl)
    refine S_calli (va_runV (As := [.int p0, .int p1, .int p2]) (rest := []) ⟨hx, hb, hml, hown, hts⟩ (n_keeps l D k A a z G_2 p0 p1 p2 (by omega)) (cwV 3 hts (gd_V hgd m1927 m1928 m1929 m131 m1930) rfl rfl rfl hd_X12_keeps ⟨Nat.le_of_ble_eq_true rfl, Nat.le_of_ble_eq_true rfl⟩) (pre_W hW hB_G_2 hK hZ hS kd_66 rfl) rfl rfl hl.1 rfl (lv_room (Nat.le_of_ble_eq_true rfl)) dL_law_1011 ⟨Nat.le_of_ble_eq_true rfl, Nat.le_of_ble_eq_true rfl⟩) hS (fun r_8 G_9 H locs hpo hW hS => ?_)
    have hX_12 : Q_keeps p0 p1 p2 G_2 r_8 G_9 := hpo
    obtain ⟨hB_G_9, hq_10, -⟩ := hpo
    have u_13 := L_keeps_1 hX_5 hX_12 rfl rfl rfl (by omega)
    refine lv_pop hx hb dL_law_1014 rfl ?_
    refine lv_goto (tgt := 1641) hx hb dL_law_1015 rfl ?_
    exact K G_9 _ _ _ (Or.inl (LI_of_1 (LIn_fr_1 (LIn_fr_1 (show LIn_1 G from ⟨hv_0_0, hv_0_1, hv_6_4, hj0, hj1, hj2, hj3, hj4, hj5, hj6, hj7, hj8, hj9, hj10, hj11⟩) hq_3 (by decide +kernel)) hq_10 (by decide +kernel)) (by omega))) hB_G_9 hW hS (lv_sub hl [0, 1, 2, 3] rfl)
  · skip
    obtain ⟨p0, hp0⟩ : ∃ y, y = xs (i0 + 1).toNatClampNeg := ⟨_, rfl⟩
    obtain ⟨p1, hp1⟩ : ∃ y, y = xs (i0 + 2).toNatClampNeg := ⟨_, rfl⟩
    obtain ⟨p2, hp2⟩ : ∃ y, y = xs (i0 + 3).toNatClampNeg := ⟨_, rfl⟩
    obtain ⟨p3, hp3⟩ : ∃ y, y = xs (i0 + 4).toNatClampNeg := ⟨_, rfl⟩
    obtain ⟨p4, hp4⟩ : ∃ y, y = xs (i0 + 5).toNatClampNeg := ⟨_, rfl⟩
    refine lv_aload_n hx hb dL_law_975 rfl (lv_at hl 1 rfl) ?_
    refine ld_1 hL hi0 hi6 hx hb hX hbl hbA hS hl dL_law_976 dL_law_977 dL_law_978 dL_law_979 dL_law_980 hp0 ?_
    refine ld_2 hL hi0 hi6 hx hb hX hbl hbA hS hl dL_law_981 dL_law_982 dL_law_983 dL_law_984 dL_law_985 hp1 ?_
    refine ld_3 hL hi0 hi6 hx hb hX hbl hbA hS hl dL_law_986 dL_law_987 dL_law_988 dL_law_989 dL_law_990 hp2 ?_
    refine S_calli (va_runV (As := [.int p0, .int p1, .int p2]) (rest := []) ⟨hx, hb, hml, hown, hts⟩ (k_Wkeeps_2 l D k A a z G p0 p1 p2 hv_0_0 hv_0_1 hv_6_4) (cwV 3 hts (gd_V hgd m1087 m1088 m1089 m117 m1090) rfl rfl rfl hd_X11_keeps ⟨Nat.le_of_ble_eq_true rfl, Nat.le_of_ble_eq_true rfl⟩) (pre_W hW hB_G hK hZ hS kd_0 rfl) rfl rfl hl.1 rfl (lv_room (Nat.le_of_ble_eq_true rfl)) dL_law_991 ⟨Nat.le_of_ble_eq_true rfl, Nat.le_of_ble_eq_true rfl⟩) hS (fun r_1 G_2 H locs hpo hW hS => ?_)
    have hX_5 : P_Wkeeps_2 p0 p1 p2 G r_1 G_2 := hpo
    obtain ⟨hB_G_2, hq_3, -⟩ := hpo
    refine lv_pop hx hb dL_law_994 rfl ?_
    refine lv_aload_n hx hb dL_law_995 rfl (lv_at hl 2 rfl) ?_
    refine ld_1 hL hi0 hi6 hx hb hX hbl hbA hS hl dL_law_996 dL_law_997 dL_law_998 dL_law_999 dL_law_1000 hp0 ?_
    refine ld_2 hL hi0 hi6 hx hb hX hbl hbA hS hl dL_law_1001 dL_law_1002 dL_law_1003 dL_law_1004 dL_law_1005 hp1 ?_
    refine ld_3 hL hi0 hi6 hx hb hX hbl hbA hS hl dL_law_1006 dL_law_1007 dL_law_1008 dL_law_1009 dL_law_1010 hp2 ?_
    have fr_6 : Fr [37, 38, 39, 40, 42, 43, 44, 45, 48, 49, 50, 51] [(6, 3), (7, 1), (7, 2), (7, 3), (7, 4), (7, 5), (7, 6), (7, 7), (9, 2), (9, 3), (19, 2), (19, 3)] G G_2 := (Fr.call9 (rs := [37, 38, 39, 40, 42, 43, 44, 45, 48, 49, 50, 51]) (fs := [(6, 3), (7, 1), (7, 2), (7, 3), (7, 4), (7, 5), (7, 6), (7, 7), (9, 2), (9, 3), (19, 2), (19, 3)]) Fr.rf hq_3 rfl rfl)
    have g_7 : gP G_2 = gP G := gP_fr fr_6 (gr_q rfl) (gf_q rfl)
    refine S_calli (va_runV (As := [.int p0, .int p1, .int p2]) (rest := []) ⟨hx, hb, hml, hown, hts⟩ (n_keeps l D k A a z G_2 p0 p1 p2 (by omega)) (cwV 3 hts (gd_V hgd m1927 m1928 m1929 m131 m1930) rfl rfl rfl hd_X12_keeps ⟨Nat.le_of_ble_eq_true rfl, Nat.le_of_ble_eq_true rfl⟩) (pre_W hW hB_G_2 hK hZ hS kd_66 rfl) rfl rfl hl.1 rfl (lv_room (Nat.le_of_ble_eq_true rfl)) dL_law_1011 ⟨Nat.le_of_ble_eq_true rfl, Nat.le_of_ble_eq_true rfl⟩) hS (fun r_8 G_9 H locs hpo hW hS => ?_)
    have hX_12 : Q_keeps p0 p1 p2 G_2 r_8 G_9 := hpo
    obtain ⟨hB_G_9, hq_10, -⟩ := hpo
    have u_13 := L_keeps_2 hX_5 hX_12 rfl rfl rfl (by omega)
    refine lv_pop hx hb dL_law_1014 rfl ?_
    refine lv_goto (tgt := 1641) hx hb dL_law_1015 rfl ?_
    exact K G_9 _ _ _ (Or.inr (LI_of_2 (LIn_fr_2 (LIn_fr_2 (show LIn_2 G from ⟨hv_0_0, hv_0_1, hv_6_4, hj0, hj1, hj2, hj3, hj4, hj5, hj6, hj7, hj8, hj9, hj10, hj11⟩) hq_3 (by decide +kernel)) hq_10 (by decide +kernel)) (by omega))) hB_G_9 hW hS (lv_sub hl [0, 1, 2, 3] rfl)

set_option maxHeartbeats 4000000 in
set_option maxRecDepth 100000 in
theorem law_18 {p : Program} {l : Launch} {e : Env} {s : State} {m : MethodId} {below : List Frame} {meth : Method} {c : Code} {D : va_G} {k : KT} {A : Nat → Prop} {a : Nat → Nat} {z : SK} {b L : Nat} {xs : Nat → Int32} (hL : L ≤ 3072) (C0 : lw_At p s m meth c b L xs) (hK : cK D k s) (hZ : Sx A z s) (hbA : ¬ A b) {G : GS} {i0 : Int32} (hi0 : 0 ≤ i0.toInt) (hi6 : i0.toInt + 6 ≤ L) (hI : LI G) (hB_G : Bd G) {H : Heap} {locs : List Loc} {ls : Array Slot} (hW : Wd D k A a G H) (hS : va_S A s.heap H locs) (hl : lv_has ls 4 [(0, .ref b), (1, .ref (a 0)), (2, .ref (a 66)), (3, .int i0)]) (K : ∀ (G1 : GS) (H1 : Heap) (locs1 : List Loc) (ls1 : Array Slot), LI G1 → Bd G1 → Wd D k A a G1 H1 → va_S A s.heap H1 locs1 → lv_has ls1 4 [(0, .ref b), (1, .ref (a 0)), (2, .ref (a 66)), (3, .int i0)] → W p l e room_1 s m #[Value.ref b] below meth c H1 locs1 119 46443 (lw_Z below #[Value.ref b] s) (F0 m 1641 ls1 [])) : W p l e room_1 s m #[Value.ref b] below meth c H locs 119 46443 (lw_Z below #[Value.ref b] s) (F0 m 1018 ls []) := by
  obtain ⟨hx, hb, hr, hml, hown, hts, hX, hbl, hlocks, hgv⟩ := id C0
  have hown : s.vm.findClass RL = some m.cls := hown
  have hgd : ∀ w ∈ gd, w ∈ lw_tbl := fun w h => (List.mem_filter.mp h).1
  have hg : ∀ w ∈ gd, w.before #[Value.ref b] s = true := fun w h => hts w (hgd w h)
  rcases hI with ⟨hv_0_0, hv_0_1, hv_6_4, hj0, hj1, hj2, hj3, hj4, hj5, hj6, hj7, hj8, hj9, hj10, hj11, hj12⟩ | ⟨hv_0_0, hv_0_1, hv_6_4, hj0, hj1, hj2, hj3, hj4, hj5, hj6, hj7, hj8, hj9, hj10, hj11, hj12⟩
  · skip
    obtain ⟨p0, hp0⟩ : ∃ y, y = xs (i0 + 1).toNatClampNeg := ⟨_, rfl⟩
    obtain ⟨p1, hp1⟩ : ∃ y, y = xs (i0 + 2).toNatClampNeg := ⟨_, rfl⟩
    obtain ⟨p2, hp2⟩ : ∃ y, y = xs (i0 + 3).toNatClampNeg := ⟨_, rfl⟩
    obtain ⟨p3, hp3⟩ : ∃ y, y = xs (i0 + 4).toNatClampNeg := ⟨_, rfl⟩
    obtain ⟨p4, hp4⟩ : ∃ y, y = xs (i0 + 5).toNatClampNeg := ⟨_, rfl⟩
    refine lv_aload_n hx hb dL_law_1018 rfl (lv_at hl 1 rfl) ?_
    refine ld_1 hL hi0 hi6 hx hb hX hbl hbA hS hl dL_law_1019 dL_law_1020 dL_law_1021 dL_law_1022 dL_law_1023 hp0 ?_
    refine ld_2 hL hi0 hi6 hx hb hX hbl hbA hS hl dL_law_1024 dL_law_1025 dL_law_1026 dL_law_1027 dL_law_1028 hp1 ?_
    refine ld_3 hL hi0 hi6 hx hb hX hbl hbA hS hl dL_law_1029 dL_law_1030 dL_law_1031 dL_law_1032 dL_law_1033 hp2 ?_
    refine ld_4 hL hi0 hi6 hx hb hX hbl hbA hS hl dL_law_1034 dL_law_1035 dL_law_1036 dL_law_1037 dL_law_1038 hp3 ?_
    refine ld_5 hL hi0 hi6 hx hb hX hbl hbA hS hl dL_law_1039 dL_law_1040 dL_law_1041 dL_law_1042 dL_law_1043 hp4 ?_
    refine S_calll (va_runV (As := [.int p0, .int p1, .int p2, .int p3, .int p4]) (rest := []) ⟨hx, hb, hml, hown, hts⟩ (k_Wbrave_1 l D k A a z G p0 p1 p2 p3 p4 hv_0_0 hv_0_1 hv_6_4) (cwV 5 hts (gd_V hgd m1113 m1114 m1115 m117 m1116) rfl rfl rfl hd_X11_brave ⟨Nat.le_of_ble_eq_true rfl, Nat.le_of_ble_eq_true rfl⟩) (pre_W hW hB_G hK hZ hS kd_0 rfl) rfl rfl hl.1 rfl (lv_room (Nat.le_of_ble_eq_true rfl)) dL_law_1044 ⟨Nat.le_of_ble_eq_true rfl, Nat.le_of_ble_eq_true rfl⟩) hS (fun r_1 G_2 H locs hpo hW hS => ?_)
    have hX_5 : P_Wbrave_1 p0 p1 p2 p3 p4 G r_1 G_2 := hpo
    obtain ⟨hB_G_2, hq_3, -⟩ := hpo
    refine lv_pop2_2 hx hb dL_law_1047 rfl ?_
    refine lv_aload_n hx hb dL_law_1048 rfl (lv_at hl 2 rfl) ?_
    refine ld_1 hL hi0 hi6 hx hb hX hbl hbA hS hl dL_law_1049 dL_law_1050 dL_law_1051 dL_law_1052 dL_law_1053 hp0 ?_
    refine ld_2 hL hi0 hi6 hx hb hX hbl hbA hS hl dL_law_1054 dL_law_1055 dL_law_1056 dL_law_1057 dL_law_1058 hp1 ?_
    refine ld_3 hL hi0 hi6 hx hb hX hbl hbA hS hl dL_law_1059 dL_law_1060 dL_law_1061 dL_law_1062 dL_law_1063 hp2 ?_
    refine ld_4 hL hi0 hi6 hx hb hX hbl hbA hS hl dL_law_1064 dL_law_1065 dL_law_1066 dL_law_1067 dL_law_1068 hp3 ?_
    refine ld_5 hL hi0 hi6 hx hb hX hbl hbA hS hl dL_law_1069 dL_law_1070 dL_law_1071 dL_law_1072 dL_law_1073 hp4 ?_
    have fr_6 : Fr [37, 38, 39, 40, 56, 57] [(6, 3), (7, 1), (7, 2), (7, 3), (7, 4), (7, 5), (7, 6), (7, 7), (29, 6)] G G_2 := (Fr.call9 (rs := [37, 38, 39, 40, 56, 57]) (fs := [(6, 3), (7, 1), (7, 2), (7, 3), (7, 4), (7, 5), (7, 6), (7, 7), (29, 6)]) Fr.rf hq_3 rfl rfl)
    have g_7 : gP G_2 = gP G := gP_fr fr_6 (gr_q rfl) (gf_q rfl)
    have g_8 : gW G_2 = gW G := gW_fr fr_6 (gr_q rfl) (gf_q rfl)
    have g_9 : gO G_2 = gO G := gO_fr fr_6 (gr_q rfl) (gf_q rfl)
    refine S_calll (va_runV (As := [.int p0, .int p1, .int p2, .int p3, .int p4]) (rest := []) ⟨hx, hb, hml, hown, hts⟩ (n_brave l D k A a z G_2 p0 p1 p2 p3 p4 (by omega) (by omega) (by omega)) (cwV 5 hts (gd_V hgd m1939 m1940 m1941 m131 m1942) rfl rfl rfl hd_X12_brave ⟨Nat.le_of_ble_eq_true rfl, Nat.le_of_ble_eq_true rfl⟩) (pre_W hW hB_G_2 hK hZ hS kd_66 rfl) rfl rfl hl.1 rfl (lv_room (Nat.le_of_ble_eq_true rfl)) dL_law_1074 ⟨Nat.le_of_ble_eq_true rfl, Nat.le_of_ble_eq_true rfl⟩) hS (fun r_10 G_11 H locs hpo hW hS => ?_)
    have hX_14 : Q_brave p0 p1 p2 p3 p4 G_2 r_10 G_11 := hpo
    obtain ⟨hB_G_11, hq_12, hp_13, -⟩ := hpo
    have u_15 := L_brave_1 hX_5 hX_14 rfl rfl rfl rfl rfl (by omega)
    refine lv_pop2_2 hx hb dL_law_1077 rfl ?_
    refine lv_goto (tgt := 1641) hx hb dL_law_1078 rfl ?_
    have fr_16 : Fr [106, 37, 38, 39, 40, 56, 57, 76, 97, 98] [(6, 3), (7, 1), (7, 2), (7, 3), (7, 4), (7, 5), (7, 6), (7, 7), (29, 6), (66, 59), (66, 60), (66, 61), (66, 62), (66, 63)] G G_11 := (Fr.call9 (rs := [106, 37, 38, 39, 40, 56, 57, 76, 97, 98]) (fs := [(6, 3), (7, 1), (7, 2), (7, 3), (7, 4), (7, 5), (7, 6), (7, 7), (29, 6), (66, 59), (66, 60), (66, 61), (66, 62), (66, 63)]) (Fr.call9 (rs := [106, 37, 38, 39, 40, 56, 57, 76, 97, 98]) (fs := [(6, 3), (7, 1), (7, 2), (7, 3), (7, 4), (7, 5), (7, 6), (7, 7), (29, 6), (66, 59), (66, 60), (66, 61), (66, 62), (66, 63)]) Fr.rf hq_3 rfl rfl) hq_12 rfl rfl)
    have g_17 : gP G_11 = gP G := gP_fr fr_16 (gr_q rfl) (gf_q rfl)
    have g_18 : gS G_11 = gS G := gS_fr fr_16 (gr_q rfl) (gf_q rfl)
    have g_19 : gTE G_11 = gTE G := gTE_fr fr_16 (gr_q rfl) (gf_q rfl)
    have g_20 : gW G_11 = gW G := gW_fr fr_16 (gr_q rfl) (gf_q rfl)
    have b_21 : 0 ≤ (G.1 0 11).toInt ∧ (G.1 0 11).toInt ≤ 1600 := bd_0_11 hB_G
    have g_22 : (G_11.1 0 11).toInt = (G.1 0 11).toInt := (congrArg Int32.toInt (show G_11.1 0 11 = (G.1 0 11) from ((hq_12.i9 0 11 rfl rfl).trans (hq_3.i9 0 11 rfl rfl))))
    have b_23 : 0 ≤ (G.1 3 7).toInt ∧ (G.1 3 7).toInt ≤ 4 := bd_3_7 hB_G
    have g_24 : (G_11.1 3 7).toInt = (G.1 3 7).toInt := (congrArg Int32.toInt (show G_11.1 3 7 = (G.1 3 7) from ((hq_12.i9 3 7 rfl rfl).trans (hq_3.i9 3 7 rfl rfl))))
    have b_25 : (-1) ≤ (G.1 3 8).toInt ∧ (G.1 3 8).toInt ≤ 1600 := bd_3_8 hB_G
    have g_26 : (G_11.1 3 8).toInt = (G.1 3 8).toInt := (congrArg Int32.toInt (show G_11.1 3 8 = (G.1 3 8) from ((hq_12.i9 3 8 rfl rfl).trans (hq_3.i9 3 8 rfl rfl))))
    have b_27 : 0 ≤ (G.1 30 4).toInt ∧ (G.1 30 4).toInt ≤ 40 := bd_30_4 hB_G
    have g_28 : (G_11.1 30 4).toInt = (G.1 30 4).toInt := (congrArg Int32.toInt (show G_11.1 30 4 = (G.1 30 4) from ((hq_12.i9 30 4 rfl rfl).trans (hq_3.i9 30 4 rfl rfl))))
    have b_29 : 0 ≤ (G.1 30 5).toInt ∧ (G.1 30 5).toInt ≤ 40 := bd_30_5 hB_G
    have g_30 : (G_11.1 30 5).toInt = (G.1 30 5).toInt := (congrArg Int32.toInt (show G_11.1 30 5 = (G.1 30 5) from ((hq_12.i9 30 5 rfl rfl).trans (hq_3.i9 30 5 rfl rfl))))
    have b_31 : 0 ≤ (G.1 31 6).toInt ∧ (G.1 31 6).toInt ≤ 100000 := bd_31_6 hB_G
    have g_32 : (G_11.1 31 6).toInt = (G.1 31 6).toInt := (congrArg Int32.toInt (show G_11.1 31 6 = (G.1 31 6) from ((hq_12.i9 31 6 rfl rfl).trans (hq_3.i9 31 6 rfl rfl))))
    have b_33 : 0 ≤ (G.1 66 1).toInt ∧ (G.1 66 1).toInt ≤ 1600 := bd_66_1 hB_G
    have g_34 : (G_11.1 66 1).toInt = (G.1 66 1).toInt := (congrArg Int32.toInt (show G_11.1 66 1 = (G.1 66 1) from ((hq_12.i9 66 1 rfl rfl).trans (hq_3.i9 66 1 rfl rfl))))
    have b_35 : 0 ≤ (G.1 66 2).toInt ∧ (G.1 66 2).toInt ≤ 4 := bd_66_2 hB_G
    have g_36 : (G_11.1 66 2).toInt = (G.1 66 2).toInt := (congrArg Int32.toInt (show G_11.1 66 2 = (G.1 66 2) from ((hq_12.i9 66 2 rfl rfl).trans (hq_3.i9 66 2 rfl rfl))))
    have b_37 : (-1) ≤ (G.1 66 3).toInt ∧ (G.1 66 3).toInt ≤ 1600 := bd_66_3 hB_G
    have g_38 : (G_11.1 66 3).toInt = (G.1 66 3).toInt := (congrArg Int32.toInt (show G_11.1 66 3 = (G.1 66 3) from ((hq_12.i9 66 3 rfl rfl).trans (hq_3.i9 66 3 rfl rfl))))
    have b_39 : 0 ≤ (G.1 66 78).toInt ∧ (G.1 66 78).toInt ≤ 40 := bd_66_78 hB_G
    have g_40 : (G_11.1 66 78).toInt = (G.1 66 78).toInt := (congrArg Int32.toInt (show G_11.1 66 78 = (G.1 66 78) from ((hq_12.i9 66 78 rfl rfl).trans (hq_3.i9 66 78 rfl rfl))))
    have b_41 : 0 ≤ (G.1 66 79).toInt ∧ (G.1 66 79).toInt ≤ 40 := bd_66_79 hB_G
    have g_42 : (G_11.1 66 79).toInt = (G.1 66 79).toInt := (congrArg Int32.toInt (show G_11.1 66 79 = (G.1 66 79) from ((hq_12.i9 66 79 rfl rfl).trans (hq_3.i9 66 79 rfl rfl))))
    have b_43 : 0 ≤ (G.1 66 86).toInt ∧ (G.1 66 86).toInt ≤ 100000 := bd_66_86 hB_G
    have g_44 : (G_11.1 66 86).toInt = (G.1 66 86).toInt := (congrArg Int32.toInt (show G_11.1 66 86 = (G.1 66 86) from ((hq_12.i9 66 86 rfl rfl).trans (hq_3.i9 66 86 rfl rfl))))
    have b_45 : 0 ≤ (G.1 96 0).toInt ∧ (G.1 96 0).toInt ≤ 9 := bd_96_0 hB_G
    have g_46 : (G_11.1 96 0).toInt = (G.1 96 0).toInt := (congrArg Int32.toInt (show G_11.1 96 0 = (G.1 96 0) from ((hq_12.i9 96 0 rfl rfl).trans (hq_3.i9 96 0 rfl rfl))))
    have b_47 : 0 ≤ (G.1 96 1).toInt ∧ (G.1 96 1).toInt ≤ 9 := bd_96_1 hB_G
    have g_48 : (G_11.1 96 1).toInt = (G.1 96 1).toInt := (congrArg Int32.toInt (show G_11.1 96 1 = (G.1 96 1) from ((hq_12.i9 96 1 rfl rfl).trans (hq_3.i9 96 1 rfl rfl))))
    have b_49 : 0 ≤ (G.1 96 2).toInt ∧ (G.1 96 2).toInt ≤ 9 := bd_96_2 hB_G
    have g_50 : (G_11.1 96 2).toInt = (G.1 96 2).toInt := (congrArg Int32.toInt (show G_11.1 96 2 = (G.1 96 2) from ((hq_12.i9 96 2 rfl rfl).trans (hq_3.i9 96 2 rfl rfl))))
    exact K G_11 _ _ _ (Or.inl ⟨((((hq_12.r9 0 0 rfl rfl).trans (hq_3.r9 0 0 rfl rfl))).trans (hv_0_0)), ((((hq_12.r9 0 1 rfl rfl).trans (hq_3.r9 0 1 rfl rfl))).trans (hv_0_1)), ((((hq_12.r9 6 4 rfl rfl).trans (hq_3.r9 6 4 rfl rfl))).trans (hv_6_4)), by omega, by omega, by omega, by omega, by omega, by omega, by omega, by omega, by omega, by omega, by omega, by omega, by omega⟩) hB_G_11 hW hS (lv_sub hl [0, 1, 2, 3] rfl)
  · skip
    obtain ⟨p0, hp0⟩ : ∃ y, y = xs (i0 + 1).toNatClampNeg := ⟨_, rfl⟩
    obtain ⟨p1, hp1⟩ : ∃ y, y = xs (i0 + 2).toNatClampNeg := ⟨_, rfl⟩
    obtain ⟨p2, hp2⟩ : ∃ y, y = xs (i0 + 3).toNatClampNeg := ⟨_, rfl⟩
    obtain ⟨p3, hp3⟩ : ∃ y, y = xs (i0 + 4).toNatClampNeg := ⟨_, rfl⟩
    obtain ⟨p4, hp4⟩ : ∃ y, y = xs (i0 + 5).toNatClampNeg := ⟨_, rfl⟩
    refine lv_aload_n hx hb dL_law_1018 rfl (lv_at hl 1 rfl) ?_
    refine ld_1 hL hi0 hi6 hx hb hX hbl hbA hS hl dL_law_1019 dL_law_1020 dL_law_1021 dL_law_1022 dL_law_1023 hp0 ?_
    refine ld_2 hL hi0 hi6 hx hb hX hbl hbA hS hl dL_law_1024 dL_law_1025 dL_law_1026 dL_law_1027 dL_law_1028 hp1 ?_
    refine ld_3 hL hi0 hi6 hx hb hX hbl hbA hS hl dL_law_1029 dL_law_1030 dL_law_1031 dL_law_1032 dL_law_1033 hp2 ?_
    refine ld_4 hL hi0 hi6 hx hb hX hbl hbA hS hl dL_law_1034 dL_law_1035 dL_law_1036 dL_law_1037 dL_law_1038 hp3 ?_
    refine ld_5 hL hi0 hi6 hx hb hX hbl hbA hS hl dL_law_1039 dL_law_1040 dL_law_1041 dL_law_1042 dL_law_1043 hp4 ?_
    refine S_calll (va_runV (As := [.int p0, .int p1, .int p2, .int p3, .int p4]) (rest := []) ⟨hx, hb, hml, hown, hts⟩ (k_Wbrave_2 l D k A a z G p0 p1 p2 p3 p4 hv_0_0 hv_0_1 hv_6_4) (cwV 5 hts (gd_V hgd m1113 m1114 m1115 m117 m1116) rfl rfl rfl hd_X11_brave ⟨Nat.le_of_ble_eq_true rfl, Nat.le_of_ble_eq_true rfl⟩) (pre_W hW hB_G hK hZ hS kd_0 rfl) rfl rfl hl.1 rfl (lv_room (Nat.le_of_ble_eq_true rfl)) dL_law_1044 ⟨Nat.le_of_ble_eq_true rfl, Nat.le_of_ble_eq_true rfl⟩) hS (fun r_1 G_2 H locs hpo hW hS => ?_)
    have hX_5 : P_Wbrave_2 p0 p1 p2 p3 p4 G r_1 G_2 := hpo
    obtain ⟨hB_G_2, hq_3, -⟩ := hpo
    refine lv_pop2_2 hx hb dL_law_1047 rfl ?_
    refine lv_aload_n hx hb dL_law_1048 rfl (lv_at hl 2 rfl) ?_
    refine ld_1 hL hi0 hi6 hx hb hX hbl hbA hS hl dL_law_1049 dL_law_1050 dL_law_1051 dL_law_1052 dL_law_1053 hp0 ?_
    refine ld_2 hL hi0 hi6 hx hb hX hbl hbA hS hl dL_law_1054 dL_law_1055 dL_law_1056 dL_law_1057 dL_law_1058 hp1 ?_
    refine ld_3 hL hi0 hi6 hx hb hX hbl hbA hS hl dL_law_1059 dL_law_1060 dL_law_1061 dL_law_1062 dL_law_1063 hp2 ?_
    refine ld_4 hL hi0 hi6 hx hb hX hbl hbA hS hl dL_law_1064 dL_law_1065 dL_law_1066 dL_law_1067 dL_law_1068 hp3 ?_
    refine ld_5 hL hi0 hi6 hx hb hX hbl hbA hS hl dL_law_1069 dL_law_1070 dL_law_1071 dL_law_1072 dL_law_1073 hp4 ?_
    have fr_6 : Fr [37, 38, 39, 40, 56, 57] [(6, 3), (7, 1), (7, 2), (7, 3), (7, 4), (7, 5), (7, 6), (7, 7), (29, 6)] G G_2 := (Fr.call9 (rs := [37, 38, 39, 40, 56, 57]) (fs := [(6, 3), (7, 1), (7, 2), (7, 3), (7, 4), (7, 5), (7, 6), (7, 7), (29, 6)]) Fr.rf hq_3 rfl rfl)
    have g_7 : gP G_2 = gP G := gP_fr fr_6 (gr_q rfl) (gf_q rfl)
    have g_8 : gW G_2 = gW G := gW_fr fr_6 (gr_q rfl) (gf_q rfl)
    have g_9 : gO G_2 = gO G := gO_fr fr_6 (gr_q rfl) (gf_q rfl)
    refine S_calll (va_runV (As := [.int p0, .int p1, .int p2, .int p3, .int p4]) (rest := []) ⟨hx, hb, hml, hown, hts⟩ (n_brave l D k A a z G_2 p0 p1 p2 p3 p4 (by omega) (by omega) (by omega)) (cwV 5 hts (gd_V hgd m1939 m1940 m1941 m131 m1942) rfl rfl rfl hd_X12_brave ⟨Nat.le_of_ble_eq_true rfl, Nat.le_of_ble_eq_true rfl⟩) (pre_W hW hB_G_2 hK hZ hS kd_66 rfl) rfl rfl hl.1 rfl (lv_room (Nat.le_of_ble_eq_true rfl)) dL_law_1074 ⟨Nat.le_of_ble_eq_true rfl, Nat.le_of_ble_eq_true rfl⟩) hS (fun r_10 G_11 H locs hpo hW hS => ?_)
    have hX_14 : Q_brave p0 p1 p2 p3 p4 G_2 r_10 G_11 := hpo
    obtain ⟨hB_G_11, hq_12, hp_13, -⟩ := hpo
    have u_15 := L_brave_2 hX_5 hX_14 rfl rfl rfl rfl rfl (by omega)
    refine lv_pop2_2 hx hb dL_law_1077 rfl ?_
    refine lv_goto (tgt := 1641) hx hb dL_law_1078 rfl ?_
    have fr_16 : Fr [106, 37, 38, 39, 40, 56, 57, 76, 97, 98] [(6, 3), (7, 1), (7, 2), (7, 3), (7, 4), (7, 5), (7, 6), (7, 7), (29, 6), (66, 59), (66, 60), (66, 61), (66, 62), (66, 63)] G G_11 := (Fr.call9 (rs := [106, 37, 38, 39, 40, 56, 57, 76, 97, 98]) (fs := [(6, 3), (7, 1), (7, 2), (7, 3), (7, 4), (7, 5), (7, 6), (7, 7), (29, 6), (66, 59), (66, 60), (66, 61), (66, 62), (66, 63)]) (Fr.call9 (rs := [106, 37, 38, 39, 40, 56, 57, 76, 97, 98]) (fs := [(6, 3), (7, 1), (7, 2), (7, 3), (7, 4), (7, 5), (7, 6), (7, 7), (29, 6), (66, 59), (66, 60), (66, 61), (66, 62), (66, 63)]) Fr.rf hq_3 rfl rfl) hq_12 rfl rfl)
    have g_17 : gP G_11 = gP G := gP_fr fr_16 (gr_q rfl) (gf_q rfl)
    have g_18 : gS G_11 = gS G := gS_fr fr_16 (gr_q rfl) (gf_q rfl)
    have g_19 : gTE G_11 = gTE G := gTE_fr fr_16 (gr_q rfl) (gf_q rfl)
    have g_20 : gW G_11 = gW G := gW_fr fr_16 (gr_q rfl) (gf_q rfl)
    have b_21 : 0 ≤ (G.1 0 11).toInt ∧ (G.1 0 11).toInt ≤ 1600 := bd_0_11 hB_G
    have g_22 : (G_11.1 0 11).toInt = (G.1 0 11).toInt := (congrArg Int32.toInt (show G_11.1 0 11 = (G.1 0 11) from ((hq_12.i9 0 11 rfl rfl).trans (hq_3.i9 0 11 rfl rfl))))
    have b_23 : 0 ≤ (G.1 3 7).toInt ∧ (G.1 3 7).toInt ≤ 4 := bd_3_7 hB_G
    have g_24 : (G_11.1 3 7).toInt = (G.1 3 7).toInt := (congrArg Int32.toInt (show G_11.1 3 7 = (G.1 3 7) from ((hq_12.i9 3 7 rfl rfl).trans (hq_3.i9 3 7 rfl rfl))))
    have b_25 : (-1) ≤ (G.1 3 8).toInt ∧ (G.1 3 8).toInt ≤ 1600 := bd_3_8 hB_G
    have g_26 : (G_11.1 3 8).toInt = (G.1 3 8).toInt := (congrArg Int32.toInt (show G_11.1 3 8 = (G.1 3 8) from ((hq_12.i9 3 8 rfl rfl).trans (hq_3.i9 3 8 rfl rfl))))
    have b_27 : 0 ≤ (G.1 30 4).toInt ∧ (G.1 30 4).toInt ≤ 40 := bd_30_4 hB_G
    have g_28 : (G_11.1 30 4).toInt = (G.1 30 4).toInt := (congrArg Int32.toInt (show G_11.1 30 4 = (G.1 30 4) from ((hq_12.i9 30 4 rfl rfl).trans (hq_3.i9 30 4 rfl rfl))))
    have b_29 : 0 ≤ (G.1 30 5).toInt ∧ (G.1 30 5).toInt ≤ 40 := bd_30_5 hB_G
    have g_30 : (G_11.1 30 5).toInt = (G.1 30 5).toInt := (congrArg Int32.toInt (show G_11.1 30 5 = (G.1 30 5) from ((hq_12.i9 30 5 rfl rfl).trans (hq_3.i9 30 5 rfl rfl))))
    have b_31 : 0 ≤ (G.1 31 6).toInt ∧ (G.1 31 6).toInt ≤ 100000 := bd_31_6 hB_G
    have g_32 : (G_11.1 31 6).toInt = (G.1 31 6).toInt := (congrArg Int32.toInt (show G_11.1 31 6 = (G.1 31 6) from ((hq_12.i9 31 6 rfl rfl).trans (hq_3.i9 31 6 rfl rfl))))
    have b_33 : 0 ≤ (G.1 66 1).toInt ∧ (G.1 66 1).toInt ≤ 1600 := bd_66_1 hB_G
    have g_34 : (G_11.1 66 1).toInt = (G.1 66 1).toInt := (congrArg Int32.toInt (show G_11.1 66 1 = (G.1 66 1) from ((hq_12.i9 66 1 rfl rfl).trans (hq_3.i9 66 1 rfl rfl))))
    have b_35 : 0 ≤ (G.1 66 2).toInt ∧ (G.1 66 2).toInt ≤ 4 := bd_66_2 hB_G
    have g_36 : (G_11.1 66 2).toInt = (G.1 66 2).toInt := (congrArg Int32.toInt (show G_11.1 66 2 = (G.1 66 2) from ((hq_12.i9 66 2 rfl rfl).trans (hq_3.i9 66 2 rfl rfl))))
    have b_37 : (-1) ≤ (G.1 66 3).toInt ∧ (G.1 66 3).toInt ≤ 1600 := bd_66_3 hB_G
    have g_38 : (G_11.1 66 3).toInt = (G.1 66 3).toInt := (congrArg Int32.toInt (show G_11.1 66 3 = (G.1 66 3) from ((hq_12.i9 66 3 rfl rfl).trans (hq_3.i9 66 3 rfl rfl))))
    have b_39 : 0 ≤ (G.1 66 78).toInt ∧ (G.1 66 78).toInt ≤ 40 := bd_66_78 hB_G
    have g_40 : (G_11.1 66 78).toInt = (G.1 66 78).toInt := (congrArg Int32.toInt (show G_11.1 66 78 = (G.1 66 78) from ((hq_12.i9 66 78 rfl rfl).trans (hq_3.i9 66 78 rfl rfl))))
    have b_41 : 0 ≤ (G.1 66 79).toInt ∧ (G.1 66 79).toInt ≤ 40 := bd_66_79 hB_G
    have g_42 : (G_11.1 66 79).toInt = (G.1 66 79).toInt := (congrArg Int32.toInt (show G_11.1 66 79 = (G.1 66 79) from ((hq_12.i9 66 79 rfl rfl).trans (hq_3.i9 66 79 rfl rfl))))
    have b_43 : 0 ≤ (G.1 66 86).toInt ∧ (G.1 66 86).toInt ≤ 100000 := bd_66_86 hB_G
    have g_44 : (G_11.1 66 86).toInt = (G.1 66 86).toInt := (congrArg Int32.toInt (show G_11.1 66 86 = (G.1 66 86) from ((hq_12.i9 66 86 rfl rfl).trans (hq_3.i9 66 86 rfl rfl))))
    have b_45 : 0 ≤ (G.1 96 0).toInt ∧ (G.1 96 0).toInt ≤ 9 := bd_96_0 hB_G
    have g_46 : (G_11.1 96 0).toInt = (G.1 96 0).toInt := (congrArg Int32.toInt (show G_11.1 96 0 = (G.1 96 0) from ((hq_12.i9 96 0 rfl rfl).trans (hq_3.i9 96 0 rfl rfl))))
    have b_47 : 0 ≤ (G.1 96 1).toInt ∧ (G.1 96 1).toInt ≤ 9 := bd_96_1 hB_G
    have g_48 : (G_11.1 96 1).toInt = (G.1 96 1).toInt := (congrArg Int32.toInt (show G_11.1 96 1 = (G.1 96 1) from ((hq_12.i9 96 1 rfl rfl).trans (hq_3.i9 96 1 rfl rfl))))
    have b_49 : 0 ≤ (G.1 96 2).toInt ∧ (G.1 96 2).toInt ≤ 9 := bd_96_2 hB_G
    have g_50 : (G_11.1 96 2).toInt = (G.1 96 2).toInt := (congrArg Int32.toInt (show G_11.1 96 2 = (G.1 96 2) from ((hq_12.i9 96 2 rfl rfl).trans (hq_3.i9 96 2 rfl rfl))))
    exact K G_11 _ _ _ (Or.inr ⟨((((hq_12.r9 0 0 rfl rfl).trans (hq_3.r9 0 0 rfl rfl))).trans (hv_0_0)), ((((hq_12.r9 0 1 rfl rfl).trans (hq_3.r9 0 1 rfl rfl))).trans (hv_0_1)), ((((hq_12.r9 6 4 rfl rfl).trans (hq_3.r9 6 4 rfl rfl))).trans (hv_6_4)), by omega, by omega, by omega, by omega, by omega, by omega, by omega, by omega, by omega, by omega, by omega, by omega, by omega⟩) hB_G_11 hW hS (lv_sub hl [0, 1, 2, 3] rfl)

set_option maxHeartbeats 4000000 in
set_option maxRecDepth 100000 in
theorem law_19 {p : Program} {l : Launch} {e : Env} {s : State} {m : MethodId} {below : List Frame} {meth : Method} {c : Code} {D : va_G} {k : KT} {A : Nat → Prop} {a : Nat → Nat} {z : SK} {b L : Nat} {xs : Nat → Int32} (hL : L ≤ 3072) (C0 : lw_At p s m meth c b L xs) (hK : cK D k s) (hZ : Sx A z s) (hbA : ¬ A b) {G : GS} {i0 : Int32} (hi0 : 0 ≤ i0.toInt) (hi6 : i0.toInt + 6 ≤ L) (hI : LI G) (hB_G : Bd G) {H : Heap} {locs : List Loc} {ls : Array Slot} (hW : Wd D k A a G H) (hS : va_S A s.heap H locs) (hl : lv_has ls 4 [(0, .ref b), (1, .ref (a 0)), (2, .ref (a 66)), (3, .int i0)]) (K : ∀ (G1 : GS) (H1 : Heap) (locs1 : List Loc) (ls1 : Array Slot), LI G1 → Bd G1 → Wd D k A a G1 H1 → va_S A s.heap H1 locs1 → lv_has ls1 4 [(0, .ref b), (1, .ref (a 0)), (2, .ref (a 66)), (3, .int i0)] → W p l e room_1 s m #[Value.ref b] below meth c H1 locs1 119 46443 (lw_Z below #[Value.ref b] s) (F0 m 1641 ls1 [])) : W p l e room_1 s m #[Value.ref b] below meth c H locs 119 46443 (lw_Z below #[Value.ref b] s) (F0 m 1081 ls []) := by
  obtain ⟨hx, hb, hr, hml, hown, hts, hX, hbl, hlocks, hgv⟩ := id C0
  have hown : s.vm.findClass RL = some m.cls := hown
  have hgd : ∀ w ∈ gd, w ∈ lw_tbl := fun w h => (List.mem_filter.mp h).1
  have hg : ∀ w ∈ gd, w.before #[Value.ref b] s = true := fun w h => hts w (hgd w h)
  rcases hI with ⟨hv_0_0, hv_0_1, hv_6_4, hj0, hj1, hj2, hj3, hj4, hj5, hj6, hj7, hj8, hj9, hj10, hj11, hj12⟩ | ⟨hv_0_0, hv_0_1, hv_6_4, hj0, hj1, hj2, hj3, hj4, hj5, hj6, hj7, hj8, hj9, hj10, hj11, hj12⟩
  · skip
    obtain ⟨p0, hp0⟩ : ∃ y, y = xs (i0 + 1).toNatClampNeg := ⟨_, rfl⟩
    obtain ⟨p1, hp1⟩ : ∃ y, y = xs (i0 + 2).toNatClampNeg := ⟨_, rfl⟩
    obtain ⟨p2, hp2⟩ : ∃ y, y = xs (i0 + 3).toNatClampNeg := ⟨_, rfl⟩
    obtain ⟨p3, hp3⟩ : ∃ y, y = xs (i0 + 4).toNatClampNeg := ⟨_, rfl⟩
    obtain ⟨p4, hp4⟩ : ∃ y, y = xs (i0 + 5).toNatClampNeg := ⟨_, rfl⟩
    refine lv_aload_n hx hb dL_law_1081 rfl (lv_at hl 1 rfl) ?_
    refine ld_1 hL hi0 hi6 hx hb hX hbl hbA hS hl dL_law_1082 dL_law_1083 dL_law_1084 dL_law_1085 dL_law_1086 hp0 ?_
    refine ld_2 hL hi0 hi6 hx hb hX hbl hbA hS hl dL_law_1087 dL_law_1088 dL_law_1089 dL_law_1090 dL_law_1091 hp1 ?_
    refine ld_3 hL hi0 hi6 hx hb hX hbl hbA hS hl dL_law_1092 dL_law_1093 dL_law_1094 dL_law_1095 dL_law_1096 hp2 ?_
    refine ld_4 hL hi0 hi6 hx hb hX hbl hbA hS hl dL_law_1097 dL_law_1098 dL_law_1099 dL_law_1100 dL_law_1101 hp3 ?_
    refine ld_5 hL hi0 hi6 hx hb hX hbl hbA hS hl dL_law_1102 dL_law_1103 dL_law_1104 dL_law_1105 dL_law_1106 hp4 ?_
    refine S_calli (va_runV (As := [.int p0, .int p1, .int p2, .int p3, .int p4]) (rest := []) ⟨hx, hb, hml, hown, hts⟩ (k_Wboldest_1 l D k A a z G p0 p1 p2 p3 p4 hv_0_0 hv_0_1 hv_6_4) (cwV 5 hts (gd_V hgd m1134 m1135 m1136 m117 m1137) rfl rfl rfl hd_X11_boldest ⟨Nat.le_of_ble_eq_true rfl, Nat.le_of_ble_eq_true rfl⟩) (pre_W hW hB_G hK hZ hS kd_0 rfl) rfl rfl hl.1 rfl (lv_room (Nat.le_of_ble_eq_true rfl)) dL_law_1107 ⟨Nat.le_of_ble_eq_true rfl, Nat.le_of_ble_eq_true rfl⟩) hS (fun r_1 G_2 H locs hpo hW hS => ?_)
    have hX_5 : P_Wboldest_1 p0 p1 p2 p3 p4 G r_1 G_2 := hpo
    obtain ⟨hB_G_2, hq_3, -⟩ := hpo
    refine lv_pop hx hb dL_law_1110 rfl ?_
    refine lv_aload_n hx hb dL_law_1111 rfl (lv_at hl 2 rfl) ?_
    refine ld_1 hL hi0 hi6 hx hb hX hbl hbA hS hl dL_law_1112 dL_law_1113 dL_law_1114 dL_law_1115 dL_law_1116 hp0 ?_
    refine ld_2 hL hi0 hi6 hx hb hX hbl hbA hS hl dL_law_1117 dL_law_1118 dL_law_1119 dL_law_1120 dL_law_1121 hp1 ?_
    refine ld_3 hL hi0 hi6 hx hb hX hbl hbA hS hl dL_law_1122 dL_law_1123 dL_law_1124 dL_law_1125 dL_law_1126 hp2 ?_
    refine ld_4 hL hi0 hi6 hx hb hX hbl hbA hS hl dL_law_1127 dL_law_1128 dL_law_1129 dL_law_1130 dL_law_1131 hp3 ?_
    refine ld_5 hL hi0 hi6 hx hb hX hbl hbA hS hl dL_law_1132 dL_law_1133 dL_law_1134 dL_law_1135 dL_law_1136 hp4 ?_
    have fr_6 : Fr [37, 38, 39, 40, 56, 57] [(6, 3), (7, 1), (7, 2), (7, 3), (7, 4), (7, 5), (7, 6), (7, 7), (29, 6)] G G_2 := (Fr.call9 (rs := [37, 38, 39, 40, 56, 57]) (fs := [(6, 3), (7, 1), (7, 2), (7, 3), (7, 4), (7, 5), (7, 6), (7, 7), (29, 6)]) Fr.rf hq_3 rfl rfl)
    have g_7 : gP G_2 = gP G := gP_fr fr_6 (gr_q rfl) (gf_q rfl)
    have g_8 : gW G_2 = gW G := gW_fr fr_6 (gr_q rfl) (gf_q rfl)
    have g_9 : gO G_2 = gO G := gO_fr fr_6 (gr_q rfl) (gf_q rfl)
    refine S_calli (va_runV (As := [.int p0, .int p1, .int p2, .int p3, .int p4]) (rest := []) ⟨hx, hb, hml, hown, hts⟩ (n_boldest l D k A a z G_2 p0 p1 p2 p3 p4 (by omega) (by omega) (by omega)) (cwV 5 hts (gd_V hgd m1963 m1964 m1965 m131 m1966) rfl rfl rfl hd_X12_boldest ⟨Nat.le_of_ble_eq_true rfl, Nat.le_of_ble_eq_true rfl⟩) (pre_W hW hB_G_2 hK hZ hS kd_66 rfl) rfl rfl hl.1 rfl (lv_room (Nat.le_of_ble_eq_true rfl)) dL_law_1137 ⟨Nat.le_of_ble_eq_true rfl, Nat.le_of_ble_eq_true rfl⟩) hS (fun r_10 G_11 H locs hpo hW hS => ?_)
    have hX_14 : Q_boldest p0 p1 p2 p3 p4 G_2 r_10 G_11 := hpo
    obtain ⟨hB_G_11, hq_12, hp_13, -⟩ := hpo
    have u_15 := L_boldest_1 hX_5 hX_14 rfl rfl rfl rfl rfl (by omega)
    refine lv_pop hx hb dL_law_1140 rfl ?_
    refine lv_goto (tgt := 1641) hx hb dL_law_1141 rfl ?_
    have fr_16 : Fr [106, 37, 38, 39, 40, 56, 57, 76, 97, 98] [(6, 3), (7, 1), (7, 2), (7, 3), (7, 4), (7, 5), (7, 6), (7, 7), (29, 6), (66, 59), (66, 60), (66, 61), (66, 62), (66, 63)] G G_11 := (Fr.call9 (rs := [106, 37, 38, 39, 40, 56, 57, 76, 97, 98]) (fs := [(6, 3), (7, 1), (7, 2), (7, 3), (7, 4), (7, 5), (7, 6), (7, 7), (29, 6), (66, 59), (66, 60), (66, 61), (66, 62), (66, 63)]) (Fr.call9 (rs := [106, 37, 38, 39, 40, 56, 57, 76, 97, 98]) (fs := [(6, 3), (7, 1), (7, 2), (7, 3), (7, 4), (7, 5), (7, 6), (7, 7), (29, 6), (66, 59), (66, 60), (66, 61), (66, 62), (66, 63)]) Fr.rf hq_3 rfl rfl) hq_12 rfl rfl)
    have g_17 : gP G_11 = gP G := gP_fr fr_16 (gr_q rfl) (gf_q rfl)
    have g_18 : gS G_11 = gS G := gS_fr fr_16 (gr_q rfl) (gf_q rfl)
    have g_19 : gTE G_11 = gTE G := gTE_fr fr_16 (gr_q rfl) (gf_q rfl)
    have g_20 : gW G_11 = gW G := gW_fr fr_16 (gr_q rfl) (gf_q rfl)
    have b_21 : 0 ≤ (G.1 0 11).toInt ∧ (G.1 0 11).toInt ≤ 1600 := bd_0_11 hB_G
    have g_22 : (G_11.1 0 11).toInt = (G.1 0 11).toInt := (congrArg Int32.toInt (show G_11.1 0 11 = (G.1 0 11) from ((hq_12.i9 0 11 rfl rfl).trans (hq_3.i9 0 11 rfl rfl))))
    have b_23 : 0 ≤ (G.1 3 7).toInt ∧ (G.1 3 7).toInt ≤ 4 := bd_3_7 hB_G
    have g_24 : (G_11.1 3 7).toInt = (G.1 3 7).toInt := (congrArg Int32.toInt (show G_11.1 3 7 = (G.1 3 7) from ((hq_12.i9 3 7 rfl rfl).trans (hq_3.i9 3 7 rfl rfl))))
    have b_25 : (-1) ≤ (G.1 3 8).toInt ∧ (G.1 3 8).toInt ≤ 1600 := bd_3_8 hB_G
    have g_26 : (G_11.1 3 8).toInt = (G.1 3 8).toInt := (congrArg Int32.toInt (show G_11.1 3 8 = (G.1 3 8) from ((hq_12.i9 3 8 rfl rfl).trans (hq_3.i9 3 8 rfl rfl))))
    have b_27 : 0 ≤ (G.1 30 4).toInt ∧ (G.1 30 4).toInt ≤ 40 := bd_30_4 hB_G
    have g_28 : (G_11.1 30 4).toInt = (G.1 30 4).toInt := (congrArg Int32.toInt (show G_11.1 30 4 = (G.1 30 4) from ((hq_12.i9 30 4 rfl rfl).trans (hq_3.i9 30 4 rfl rfl))))
    have b_29 : 0 ≤ (G.1 30 5).toInt ∧ (G.1 30 5).toInt ≤ 40 := bd_30_5 hB_G
    have g_30 : (G_11.1 30 5).toInt = (G.1 30 5).toInt := (congrArg Int32.toInt (show G_11.1 30 5 = (G.1 30 5) from ((hq_12.i9 30 5 rfl rfl).trans (hq_3.i9 30 5 rfl rfl))))
    have b_31 : 0 ≤ (G.1 31 6).toInt ∧ (G.1 31 6).toInt ≤ 100000 := bd_31_6 hB_G
    have g_32 : (G_11.1 31 6).toInt = (G.1 31 6).toInt := (congrArg Int32.toInt (show G_11.1 31 6 = (G.1 31 6) from ((hq_12.i9 31 6 rfl rfl).trans (hq_3.i9 31 6 rfl rfl))))
    have b_33 : 0 ≤ (G.1 66 1).toInt ∧ (G.1 66 1).toInt ≤ 1600 := bd_66_1 hB_G
    have g_34 : (G_11.1 66 1).toInt = (G.1 66 1).toInt := (congrArg Int32.toInt (show G_11.1 66 1 = (G.1 66 1) from ((hq_12.i9 66 1 rfl rfl).trans (hq_3.i9 66 1 rfl rfl))))
    have b_35 : 0 ≤ (G.1 66 2).toInt ∧ (G.1 66 2).toInt ≤ 4 := bd_66_2 hB_G
    have g_36 : (G_11.1 66 2).toInt = (G.1 66 2).toInt := (congrArg Int32.toInt (show G_11.1 66 2 = (G.1 66 2) from ((hq_12.i9 66 2 rfl rfl).trans (hq_3.i9 66 2 rfl rfl))))
    have b_37 : (-1) ≤ (G.1 66 3).toInt ∧ (G.1 66 3).toInt ≤ 1600 := bd_66_3 hB_G
    have g_38 : (G_11.1 66 3).toInt = (G.1 66 3).toInt := (congrArg Int32.toInt (show G_11.1 66 3 = (G.1 66 3) from ((hq_12.i9 66 3 rfl rfl).trans (hq_3.i9 66 3 rfl rfl))))
    have b_39 : 0 ≤ (G.1 66 78).toInt ∧ (G.1 66 78).toInt ≤ 40 := bd_66_78 hB_G
    have g_40 : (G_11.1 66 78).toInt = (G.1 66 78).toInt := (congrArg Int32.toInt (show G_11.1 66 78 = (G.1 66 78) from ((hq_12.i9 66 78 rfl rfl).trans (hq_3.i9 66 78 rfl rfl))))
    have b_41 : 0 ≤ (G.1 66 79).toInt ∧ (G.1 66 79).toInt ≤ 40 := bd_66_79 hB_G
    have g_42 : (G_11.1 66 79).toInt = (G.1 66 79).toInt := (congrArg Int32.toInt (show G_11.1 66 79 = (G.1 66 79) from ((hq_12.i9 66 79 rfl rfl).trans (hq_3.i9 66 79 rfl rfl))))
    have b_43 : 0 ≤ (G.1 66 86).toInt ∧ (G.1 66 86).toInt ≤ 100000 := bd_66_86 hB_G
    have g_44 : (G_11.1 66 86).toInt = (G.1 66 86).toInt := (congrArg Int32.toInt (show G_11.1 66 86 = (G.1 66 86) from ((hq_12.i9 66 86 rfl rfl).trans (hq_3.i9 66 86 rfl rfl))))
    have b_45 : 0 ≤ (G.1 96 0).toInt ∧ (G.1 96 0).toInt ≤ 9 := bd_96_0 hB_G
    have g_46 : (G_11.1 96 0).toInt = (G.1 96 0).toInt := (congrArg Int32.toInt (show G_11.1 96 0 = (G.1 96 0) from ((hq_12.i9 96 0 rfl rfl).trans (hq_3.i9 96 0 rfl rfl))))
    have b_47 : 0 ≤ (G.1 96 1).toInt ∧ (G.1 96 1).toInt ≤ 9 := bd_96_1 hB_G
    have g_48 : (G_11.1 96 1).toInt = (G.1 96 1).toInt := (congrArg Int32.toInt (show G_11.1 96 1 = (G.1 96 1) from ((hq_12.i9 96 1 rfl rfl).trans (hq_3.i9 96 1 rfl rfl))))
    have b_49 : 0 ≤ (G.1 96 2).toInt ∧ (G.1 96 2).toInt ≤ 9 := bd_96_2 hB_G
    have g_50 : (G_11.1 96 2).toInt = (G.1 96 2).toInt := (congrArg Int32.toInt (show G_11.1 96 2 = (G.1 96 2) from ((hq_12.i9 96 2 rfl rfl).trans (hq_3.i9 96 2 rfl rfl))))
    exact K G_11 _ _ _ (Or.inl ⟨((((hq_12.r9 0 0 rfl rfl).trans (hq_3.r9 0 0 rfl rfl))).trans (hv_0_0)), ((((hq_12.r9 0 1 rfl rfl).trans (hq_3.r9 0 1 rfl rfl))).trans (hv_0_1)), ((((hq_12.r9 6 4 rfl rfl).trans (hq_3.r9 6 4 rfl rfl))).trans (hv_6_4)), by omega, by omega, by omega, by omega, by omega, by omega, by omega, by omega, by omega, by omega, by omega, by omega, by omega⟩) hB_G_11 hW hS (lv_sub hl [0, 1, 2, 3] rfl)
  · skip
    obtain ⟨p0, hp0⟩ : ∃ y, y = xs (i0 + 1).toNatClampNeg := ⟨_, rfl⟩
    obtain ⟨p1, hp1⟩ : ∃ y, y = xs (i0 + 2).toNatClampNeg := ⟨_, rfl⟩
    obtain ⟨p2, hp2⟩ : ∃ y, y = xs (i0 + 3).toNatClampNeg := ⟨_, rfl⟩
    obtain ⟨p3, hp3⟩ : ∃ y, y = xs (i0 + 4).toNatClampNeg := ⟨_, rfl⟩
    obtain ⟨p4, hp4⟩ : ∃ y, y = xs (i0 + 5).toNatClampNeg := ⟨_, rfl⟩
    refine lv_aload_n hx hb dL_law_1081 rfl (lv_at hl 1 rfl) ?_
    refine ld_1 hL hi0 hi6 hx hb hX hbl hbA hS hl dL_law_1082 dL_law_1083 dL_law_1084 dL_law_1085 dL_law_1086 hp0 ?_
    refine ld_2 hL hi0 hi6 hx hb hX hbl hbA hS hl dL_law_1087 dL_law_1088 dL_law_1089 dL_law_1090 dL_law_1091 hp1 ?_
    refine ld_3 hL hi0 hi6 hx hb hX hbl hbA hS hl dL_law_1092 dL_law_1093 dL_law_1094 dL_law_1095 dL_law_1096 hp2 ?_
    refine ld_4 hL hi0 hi6 hx hb hX hbl hbA hS hl dL_law_1097 dL_law_1098 dL_law_1099 dL_law_1100 dL_law_1101 hp3 ?_
    refine ld_5 hL hi0 hi6 hx hb hX hbl hbA hS hl dL_law_1102 dL_law_1103 dL_law_1104 dL_law_1105 dL_law_1106 hp4 ?_
    refine S_calli (va_runV (As := [.int p0, .int p1, .int p2, .int p3, .int p4]) (rest := []) ⟨hx, hb, hml, hown, hts⟩ (k_Wboldest_2 l D k A a z G p0 p1 p2 p3 p4 hv_0_0 hv_0_1 hv_6_4) (cwV 5 hts (gd_V hgd m1134 m1135 m1136 m117 m1137) rfl rfl rfl hd_X11_boldest ⟨Nat.le_of_ble_eq_true rfl, Nat.le_of_ble_eq_true rfl⟩) (pre_W hW hB_G hK hZ hS kd_0 rfl) rfl rfl hl.1 rfl (lv_room (Nat.le_of_ble_eq_true rfl)) dL_law_1107 ⟨Nat.le_of_ble_eq_true rfl, Nat.le_of_ble_eq_true rfl⟩) hS (fun r_1 G_2 H locs hpo hW hS => ?_)
    have hX_5 : P_Wboldest_2 p0 p1 p2 p3 p4 G r_1 G_2 := hpo
    obtain ⟨hB_G_2, hq_3, -⟩ := hpo
    refine lv_pop hx hb dL_law_1110 rfl ?_
    refine lv_aload_n hx hb dL_law_1111 rfl (lv_at hl 2 rfl) ?_
    refine ld_1 hL hi0 hi6 hx hb hX hbl hbA hS hl dL_law_1112 dL_law_1113 dL_law_1114 dL_law_1115 dL_law_1116 hp0 ?_
    refine ld_2 hL hi0 hi6 hx hb hX hbl hbA hS hl dL_law_1117 dL_law_1118 dL_law_1119 dL_law_1120 dL_law_1121 hp1 ?_
    refine ld_3 hL hi0 hi6 hx hb hX hbl hbA hS hl dL_law_1122 dL_law_1123 dL_law_1124 dL_law_1125 dL_law_1126 hp2 ?_
    refine ld_4 hL hi0 hi6 hx hb hX hbl hbA hS hl dL_law_1127 dL_law_1128 dL_law_1129 dL_law_1130 dL_law_1131 hp3 ?_
    refine ld_5 hL hi0 hi6 hx hb hX hbl hbA hS hl dL_law_1132 dL_law_1133 dL_law_1134 dL_law_1135 dL_law_1136 hp4 ?_
    have fr_6 : Fr [37, 38, 39, 40, 56, 57] [(6, 3), (7, 1), (7, 2), (7, 3), (7, 4), (7, 5), (7, 6), (7, 7), (29, 6)] G G_2 := (Fr.call9 (rs := [37, 38, 39, 40, 56, 57]) (fs := [(6, 3), (7, 1), (7, 2), (7, 3), (7, 4), (7, 5), (7, 6), (7, 7), (29, 6)]) Fr.rf hq_3 rfl rfl)
    have g_7 : gP G_2 = gP G := gP_fr fr_6 (gr_q rfl) (gf_q rfl)
    have g_8 : gW G_2 = gW G := gW_fr fr_6 (gr_q rfl) (gf_q rfl)
    have g_9 : gO G_2 = gO G := gO_fr fr_6 (gr_q rfl) (gf_q rfl)
    refine S_calli (va_runV (As := [.int p0, .int p1, .int p2, .int p3, .int p4]) (rest := []) ⟨hx, hb, hml, hown, hts⟩ (n_boldest l D k A a z G_2 p0 p1 p2 p3 p4 (by omega) (by omega) (by omega)) (cwV 5 hts (gd_V hgd m1963 m1964 m1965 m131 m1966) rfl rfl rfl hd_X12_boldest ⟨Nat.le_of_ble_eq_true rfl, Nat.le_of_ble_eq_true rfl⟩) (pre_W hW hB_G_2 hK hZ hS kd_66 rfl) rfl rfl hl.1 rfl (lv_room (Nat.le_of_ble_eq_true rfl)) dL_law_1137 ⟨Nat.le_of_ble_eq_true rfl, Nat.le_of_ble_eq_true rfl⟩) hS (fun r_10 G_11 H locs hpo hW hS => ?_)
    have hX_14 : Q_boldest p0 p1 p2 p3 p4 G_2 r_10 G_11 := hpo
    obtain ⟨hB_G_11, hq_12, hp_13, -⟩ := hpo
    have u_15 := L_boldest_2 hX_5 hX_14 rfl rfl rfl rfl rfl (by omega)
    refine lv_pop hx hb dL_law_1140 rfl ?_
    refine lv_goto (tgt := 1641) hx hb dL_law_1141 rfl ?_
    have fr_16 : Fr [106, 37, 38, 39, 40, 56, 57, 76, 97, 98] [(6, 3), (7, 1), (7, 2), (7, 3), (7, 4), (7, 5), (7, 6), (7, 7), (29, 6), (66, 59), (66, 60), (66, 61), (66, 62), (66, 63)] G G_11 := (Fr.call9 (rs := [106, 37, 38, 39, 40, 56, 57, 76, 97, 98]) (fs := [(6, 3), (7, 1), (7, 2), (7, 3), (7, 4), (7, 5), (7, 6), (7, 7), (29, 6), (66, 59), (66, 60), (66, 61), (66, 62), (66, 63)]) (Fr.call9 (rs := [106, 37, 38, 39, 40, 56, 57, 76, 97, 98]) (fs := [(6, 3), (7, 1), (7, 2), (7, 3), (7, 4), (7, 5), (7, 6), (7, 7), (29, 6), (66, 59), (66, 60), (66, 61), (66, 62), (66, 63)]) Fr.rf hq_3 rfl rfl) hq_12 rfl rfl)
    have g_17 : gP G_11 = gP G := gP_fr fr_16 (gr_q rfl) (gf_q rfl)
    have g_18 : gS G_11 = gS G := gS_fr fr_16 (gr_q rfl) (gf_q rfl)
    have g_19 : gTE G_11 = gTE G := gTE_fr fr_16 (gr_q rfl) (gf_q rfl)
    have g_20 : gW G_11 = gW G := gW_fr fr_16 (gr_q rfl) (gf_q rfl)
    have b_21 : 0 ≤ (G.1 0 11).toInt ∧ (G.1 0 11).toInt ≤ 1600 := bd_0_11 hB_G
    have g_22 : (G_11.1 0 11).toInt = (G.1 0 11).toInt := (congrArg Int32.toInt (show G_11.1 0 11 = (G.1 0 11) from ((hq_12.i9 0 11 rfl rfl).trans (hq_3.i9 0 11 rfl rfl))))
    have b_23 : 0 ≤ (G.1 3 7).toInt ∧ (G.1 3 7).toInt ≤ 4 := bd_3_7 hB_G
    have g_24 : (G_11.1 3 7).toInt = (G.1 3 7).toInt := (congrArg Int32.toInt (show G_11.1 3 7 = (G.1 3 7) from ((hq_12.i9 3 7 rfl rfl).trans (hq_3.i9 3 7 rfl rfl))))
    have b_25 : (-1) ≤ (G.1 3 8).toInt ∧ (G.1 3 8).toInt ≤ 1600 := bd_3_8 hB_G
    have g_26 : (G_11.1 3 8).toInt = (G.1 3 8).toInt := (congrArg Int32.toInt (show G_11.1 3 8 = (G.1 3 8) from ((hq_12.i9 3 8 rfl rfl).trans (hq_3.i9 3 8 rfl rfl))))
    have b_27 : 0 ≤ (G.1 30 4).toInt ∧ (G.1 30 4).toInt ≤ 40 := bd_30_4 hB_G
    have g_28 : (G_11.1 30 4).toInt = (G.1 30 4).toInt := (congrArg Int32.toInt (show G_11.1 30 4 = (G.1 30 4) from ((hq_12.i9 30 4 rfl rfl).trans (hq_3.i9 30 4 rfl rfl))))
    have b_29 : 0 ≤ (G.1 30 5).toInt ∧ (G.1 30 5).toInt ≤ 40 := bd_30_5 hB_G
    have g_30 : (G_11.1 30 5).toInt = (G.1 30 5).toInt := (congrArg Int32.toInt (show G_11.1 30 5 = (G.1 30 5) from ((hq_12.i9 30 5 rfl rfl).trans (hq_3.i9 30 5 rfl rfl))))
    have b_31 : 0 ≤ (G.1 31 6).toInt ∧ (G.1 31 6).toInt ≤ 100000 := bd_31_6 hB_G
    have g_32 : (G_11.1 31 6).toInt = (G.1 31 6).toInt := (congrArg Int32.toInt (show G_11.1 31 6 = (G.1 31 6) from ((hq_12.i9 31 6 rfl rfl).trans (hq_3.i9 31 6 rfl rfl))))
    have b_33 : 0 ≤ (G.1 66 1).toInt ∧ (G.1 66 1).toInt ≤ 1600 := bd_66_1 hB_G
    have g_34 : (G_11.1 66 1).toInt = (G.1 66 1).toInt := (congrArg Int32.toInt (show G_11.1 66 1 = (G.1 66 1) from ((hq_12.i9 66 1 rfl rfl).trans (hq_3.i9 66 1 rfl rfl))))
    have b_35 : 0 ≤ (G.1 66 2).toInt ∧ (G.1 66 2).toInt ≤ 4 := bd_66_2 hB_G
    have g_36 : (G_11.1 66 2).toInt = (G.1 66 2).toInt := (congrArg Int32.toInt (show G_11.1 66 2 = (G.1 66 2) from ((hq_12.i9 66 2 rfl rfl).trans (hq_3.i9 66 2 rfl rfl))))
    have b_37 : (-1) ≤ (G.1 66 3).toInt ∧ (G.1 66 3).toInt ≤ 1600 := bd_66_3 hB_G
    have g_38 : (G_11.1 66 3).toInt = (G.1 66 3).toInt := (congrArg Int32.toInt (show G_11.1 66 3 = (G.1 66 3) from ((hq_12.i9 66 3 rfl rfl).trans (hq_3.i9 66 3 rfl rfl))))
    have b_39 : 0 ≤ (G.1 66 78).toInt ∧ (G.1 66 78).toInt ≤ 40 := bd_66_78 hB_G
    have g_40 : (G_11.1 66 78).toInt = (G.1 66 78).toInt := (congrArg Int32.toInt (show G_11.1 66 78 = (G.1 66 78) from ((hq_12.i9 66 78 rfl rfl).trans (hq_3.i9 66 78 rfl rfl))))
    have b_41 : 0 ≤ (G.1 66 79).toInt ∧ (G.1 66 79).toInt ≤ 40 := bd_66_79 hB_G
    have g_42 : (G_11.1 66 79).toInt = (G.1 66 79).toInt := (congrArg Int32.toInt (show G_11.1 66 79 = (G.1 66 79) from ((hq_12.i9 66 79 rfl rfl).trans (hq_3.i9 66 79 rfl rfl))))
    have b_43 : 0 ≤ (G.1 66 86).toInt ∧ (G.1 66 86).toInt ≤ 100000 := bd_66_86 hB_G
    have g_44 : (G_11.1 66 86).toInt = (G.1 66 86).toInt := (congrArg Int32.toInt (show G_11.1 66 86 = (G.1 66 86) from ((hq_12.i9 66 86 rfl rfl).trans (hq_3.i9 66 86 rfl rfl))))
    have b_45 : 0 ≤ (G.1 96 0).toInt ∧ (G.1 96 0).toInt ≤ 9 := bd_96_0 hB_G
    have g_46 : (G_11.1 96 0).toInt = (G.1 96 0).toInt := (congrArg Int32.toInt (show G_11.1 96 0 = (G.1 96 0) from ((hq_12.i9 96 0 rfl rfl).trans (hq_3.i9 96 0 rfl rfl))))
    have b_47 : 0 ≤ (G.1 96 1).toInt ∧ (G.1 96 1).toInt ≤ 9 := bd_96_1 hB_G
    have g_48 : (G_11.1 96 1).toInt = (G.1 96 1).toInt := (congrArg Int32.toInt (show G_11.1 96 1 = (G.1 96 1) from ((hq_12.i9 96 1 rfl rfl).trans (hq_3.i9 96 1 rfl rfl))))
    have b_49 : 0 ≤ (G.1 96 2).toInt ∧ (G.1 96 2).toInt ≤ 9 := bd_96_2 hB_G
    have g_50 : (G_11.1 96 2).toInt = (G.1 96 2).toInt := (congrArg Int32.toInt (show G_11.1 96 2 = (G.1 96 2) from ((hq_12.i9 96 2 rfl rfl).trans (hq_3.i9 96 2 rfl rfl))))
    exact K G_11 _ _ _ (Or.inr ⟨((((hq_12.r9 0 0 rfl rfl).trans (hq_3.r9 0 0 rfl rfl))).trans (hv_0_0)), ((((hq_12.r9 0 1 rfl rfl).trans (hq_3.r9 0 1 rfl rfl))).trans (hv_0_1)), ((((hq_12.r9 6 4 rfl rfl).trans (hq_3.r9 6 4 rfl rfl))).trans (hv_6_4)), by omega, by omega, by omega, by omega, by omega, by omega, by omega, by omega, by omega, by omega, by omega, by omega, by omega⟩) hB_G_11 hW hS (lv_sub hl [0, 1, 2, 3] rfl)

set_option maxHeartbeats 4000000 in
set_option maxRecDepth 100000 in
theorem law_20 {p : Program} {l : Launch} {e : Env} {s : State} {m : MethodId} {below : List Frame} {meth : Method} {c : Code} {D : va_G} {k : KT} {A : Nat → Prop} {a : Nat → Nat} {z : SK} {b L : Nat} {xs : Nat → Int32} (hL : L ≤ 3072) (C0 : lw_At p s m meth c b L xs) (hK : cK D k s) (hZ : Sx A z s) (hbA : ¬ A b) {G : GS} {i0 : Int32} (hi0 : 0 ≤ i0.toInt) (hi6 : i0.toInt + 6 ≤ L) (hI : LI G) (hB_G : Bd G) {H : Heap} {locs : List Loc} {ls : Array Slot} (hW : Wd D k A a G H) (hS : va_S A s.heap H locs) (hl : lv_has ls 4 [(0, .ref b), (1, .ref (a 0)), (2, .ref (a 66)), (3, .int i0)]) (K : ∀ (G1 : GS) (H1 : Heap) (locs1 : List Loc) (ls1 : Array Slot), LI G1 → Bd G1 → Wd D k A a G1 H1 → va_S A s.heap H1 locs1 → lv_has ls1 4 [(0, .ref b), (1, .ref (a 0)), (2, .ref (a 66)), (3, .int i0)] → W p l e room_1 s m #[Value.ref b] below meth c H1 locs1 119 46443 (lw_Z below #[Value.ref b] s) (F0 m 1641 ls1 [])) : W p l e room_1 s m #[Value.ref b] below meth c H locs 119 46443 (lw_Z below #[Value.ref b] s) (F0 m 1144 ls []) := by
  obtain ⟨hx, hb, hr, hml, hown, hts, hX, hbl, hlocks, hgv⟩ := id C0
  have hown : s.vm.findClass RL = some m.cls := hown
  have hgd : ∀ w ∈ gd, w ∈ lw_tbl := fun w h => (List.mem_filter.mp h).1
  have hg : ∀ w ∈ gd, w.before #[Value.ref b] s = true := fun w h => hts w (hgd w h)
  rcases hI with ⟨hv_0_0, hv_0_1, hv_6_4, hj0, hj1, hj2, hj3, hj4, hj5, hj6, hj7, hj8, hj9, hj10, hj11, hj12⟩ | ⟨hv_0_0, hv_0_1, hv_6_4, hj0, hj1, hj2, hj3, hj4, hj5, hj6, hj7, hj8, hj9, hj10, hj11, hj12⟩
  · skip
    obtain ⟨p0, hp0⟩ : ∃ y, y = xs (i0 + 1).toNatClampNeg := ⟨_, rfl⟩
    obtain ⟨p1, hp1⟩ : ∃ y, y = xs (i0 + 2).toNatClampNeg := ⟨_, rfl⟩
    obtain ⟨p2, hp2⟩ : ∃ y, y = xs (i0 + 3).toNatClampNeg := ⟨_, rfl⟩
    obtain ⟨p3, hp3⟩ : ∃ y, y = xs (i0 + 4).toNatClampNeg := ⟨_, rfl⟩
    obtain ⟨p4, hp4⟩ : ∃ y, y = xs (i0 + 5).toNatClampNeg := ⟨_, rfl⟩
    refine lv_aload_n hx hb dL_law_1144 rfl (lv_at hl 1 rfl) ?_
    refine ld_1 hL hi0 hi6 hx hb hX hbl hbA hS hl dL_law_1145 dL_law_1146 dL_law_1147 dL_law_1148 dL_law_1149 hp0 ?_
    refine ld_2 hL hi0 hi6 hx hb hX hbl hbA hS hl dL_law_1150 dL_law_1151 dL_law_1152 dL_law_1153 dL_law_1154 hp1 ?_
    refine ld_3 hL hi0 hi6 hx hb hX hbl hbA hS hl dL_law_1155 dL_law_1156 dL_law_1157 dL_law_1158 dL_law_1159 hp2 ?_
    refine ld_4 hL hi0 hi6 hx hb hX hbl hbA hS hl dL_law_1160 dL_law_1161 dL_law_1162 dL_law_1163 dL_law_1164 hp3 ?_
    refine S_calli (va_runV (As := [.int p0, .int p1, .int p2, .int p3]) (rest := []) ⟨hx, hb, hml, hown, hts⟩ (k_Wwager_1 l D k A a z G p0 p1 p2 p3 hv_0_0 hv_0_1 hv_6_4) (cwV 4 hts (gd_V hgd m1142 m1143 m1144 m117 m1145) rfl rfl rfl hd_X11_wager ⟨Nat.le_of_ble_eq_true rfl, Nat.le_of_ble_eq_true rfl⟩) (pre_W hW hB_G hK hZ hS kd_0 rfl) rfl rfl hl.1 rfl (lv_room (Nat.le_of_ble_eq_true rfl)) dL_law_1165 ⟨Nat.le_of_ble_eq_true rfl, Nat.le_of_ble_eq_true rfl⟩) hS (fun r_1 G_2 H locs hpo hW hS => ?_)
    have hX_5 : P_Wwager_1 p0 p1 p2 p3 G r_1 G_2 := hpo
    obtain ⟨hB_G_2, hq_3, -⟩ := hpo
    refine lv_pop hx hb dL_law_1168 rfl ?_
    refine lv_aload_n hx hb dL_law_1169 rfl (lv_at hl 2 rfl) ?_
    refine ld_1 hL hi0 hi6 hx hb hX hbl hbA hS hl dL_law_1170 dL_law_1171 dL_law_1172 dL_law_1173 dL_law_1174 hp0 ?_
    refine ld_2 hL hi0 hi6 hx hb hX hbl hbA hS hl dL_law_1175 dL_law_1176 dL_law_1177 dL_law_1178 dL_law_1179 hp1 ?_
    refine ld_3 hL hi0 hi6 hx hb hX hbl hbA hS hl dL_law_1180 dL_law_1181 dL_law_1182 dL_law_1183 dL_law_1184 hp2 ?_
    refine ld_4 hL hi0 hi6 hx hb hX hbl hbA hS hl dL_law_1185 dL_law_1186 dL_law_1187 dL_law_1188 dL_law_1189 hp3 ?_
    have fr_6 : Fr [37, 38, 39, 40, 42, 43, 46, 47] [(6, 3), (7, 1), (7, 2), (7, 3), (7, 4), (7, 5), (7, 6), (7, 7)] G G_2 := (Fr.call9 (rs := [37, 38, 39, 40, 42, 43, 46, 47]) (fs := [(6, 3), (7, 1), (7, 2), (7, 3), (7, 4), (7, 5), (7, 6), (7, 7)]) Fr.rf hq_3 rfl rfl)
    have g_7 : gP G_2 = gP G := gP_fr fr_6 (gr_q rfl) (gf_q rfl)
    have g_8 : gW G_2 = gW G := gW_fr fr_6 (gr_q rfl) (gf_q rfl)
    refine S_calli (va_runV (As := [.int p0, .int p1, .int p2, .int p3]) (rest := []) ⟨hx, hb, hml, hown, hts⟩ (n_wager l D k A a z G_2 p0 p1 p2 p3 (by omega) (by omega)) (cwV 4 hts (gd_V hgd m1967 m1968 m1969 m131 m1970) rfl rfl rfl hd_X12_wager ⟨Nat.le_of_ble_eq_true rfl, Nat.le_of_ble_eq_true rfl⟩) (pre_W hW hB_G_2 hK hZ hS kd_66 rfl) rfl rfl hl.1 rfl (lv_room (Nat.le_of_ble_eq_true rfl)) dL_law_1190 ⟨Nat.le_of_ble_eq_true rfl, Nat.le_of_ble_eq_true rfl⟩) hS (fun r_9 G_10 H locs hpo hW hS => ?_)
    have hX_13 : Q_wager p0 p1 p2 p3 G_2 r_9 G_10 := hpo
    obtain ⟨hB_G_10, hq_11, -⟩ := hpo
    have u_14 := L_wager_1 hX_5 hX_13 rfl rfl rfl rfl (by omega)
    refine lv_pop hx hb dL_law_1193 rfl ?_
    refine lv_goto (tgt := 1641) hx hb dL_law_1194 rfl ?_
    exact K G_10 _ _ _ (Or.inl (LI_of_1 (LIn_fr_1 (LIn_fr_1 (show LIn_1 G from ⟨hv_0_0, hv_0_1, hv_6_4, hj0, hj1, hj2, hj3, hj4, hj5, hj6, hj7, hj8, hj9, hj10, hj11⟩) hq_3 (by decide +kernel)) hq_11 (by decide +kernel)) (by omega))) hB_G_10 hW hS (lv_sub hl [0, 1, 2, 3] rfl)
  · skip
    obtain ⟨p0, hp0⟩ : ∃ y, y = xs (i0 + 1).toNatClampNeg := ⟨_, rfl⟩
    obtain ⟨p1, hp1⟩ : ∃ y, y = xs (i0 + 2).toNatClampNeg := ⟨_, rfl⟩
    obtain ⟨p2, hp2⟩ : ∃ y, y = xs (i0 + 3).toNatClampNeg := ⟨_, rfl⟩
    obtain ⟨p3, hp3⟩ : ∃ y, y = xs (i0 + 4).toNatClampNeg := ⟨_, rfl⟩
    obtain ⟨p4, hp4⟩ : ∃ y, y = xs (i0 + 5).toNatClampNeg := ⟨_, rfl⟩
    refine lv_aload_n hx hb dL_law_1144 rfl (lv_at hl 1 rfl) ?_
    refine ld_1 hL hi0 hi6 hx hb hX hbl hbA hS hl dL_law_1145 dL_law_1146 dL_law_1147 dL_law_1148 dL_law_1149 hp0 ?_
    refine ld_2 hL hi0 hi6 hx hb hX hbl hbA hS hl dL_law_1150 dL_law_1151 dL_law_1152 dL_law_1153 dL_law_1154 hp1 ?_
    refine ld_3 hL hi0 hi6 hx hb hX hbl hbA hS hl dL_law_1155 dL_law_1156 dL_law_1157 dL_law_1158 dL_law_1159 hp2 ?_
    refine ld_4 hL hi0 hi6 hx hb hX hbl hbA hS hl dL_law_1160 dL_law_1161 dL_law_1162 dL_law_1163 dL_law_1164 hp3 ?_
    refine S_calli (va_runV (As := [.int p0, .int p1, .int p2, .int p3]) (rest := []) ⟨hx, hb, hml, hown, hts⟩ (k_Wwager_2 l D k A a z G p0 p1 p2 p3 hv_0_0 hv_0_1 hv_6_4) (cwV 4 hts (gd_V hgd m1142 m1143 m1144 m117 m1145) rfl rfl rfl hd_X11_wager ⟨Nat.le_of_ble_eq_true rfl, Nat.le_of_ble_eq_true rfl⟩) (pre_W hW hB_G hK hZ hS kd_0 rfl) rfl rfl hl.1 rfl (lv_room (Nat.le_of_ble_eq_true rfl)) dL_law_1165 ⟨Nat.le_of_ble_eq_true rfl, Nat.le_of_ble_eq_true rfl⟩) hS (fun r_1 G_2 H locs hpo hW hS => ?_)
    have hX_5 : P_Wwager_2 p0 p1 p2 p3 G r_1 G_2 := hpo
    obtain ⟨hB_G_2, hq_3, -⟩ := hpo
    refine lv_pop hx hb dL_law_1168 rfl ?_
    refine lv_aload_n hx hb dL_law_1169 rfl (lv_at hl 2 rfl) ?_
    refine ld_1 hL hi0 hi6 hx hb hX hbl hbA hS hl dL_law_1170 dL_law_1171 dL_law_1172 dL_law_1173 dL_law_1174 hp0 ?_
    refine ld_2 hL hi0 hi6 hx hb hX hbl hbA hS hl dL_law_1175 dL_law_1176 dL_law_1177 dL_law_1178 dL_law_1179 hp1 ?_
    refine ld_3 hL hi0 hi6 hx hb hX hbl hbA hS hl dL_law_1180 dL_law_1181 dL_law_1182 dL_law_1183 dL_law_1184 hp2 ?_
    refine ld_4 hL hi0 hi6 hx hb hX hbl hbA hS hl dL_law_1185 dL_law_1186 dL_law_1187 dL_law_1188 dL_law_1189 hp3 ?_
    have fr_6 : Fr [37, 38, 39, 40, 42, 43, 46, 47] [(6, 3), (7, 1), (7, 2), (7, 3), (7, 4), (7, 5), (7, 6), (7, 7)] G G_2 := (Fr.call9 (rs := [37, 38, 39, 40, 42, 43, 46, 47]) (fs := [(6, 3), (7, 1), (7, 2), (7, 3), (7, 4), (7, 5), (7, 6), (7, 7)]) Fr.rf hq_3 rfl rfl)
    have g_7 : gP G_2 = gP G := gP_fr fr_6 (gr_q rfl) (gf_q rfl)
    have g_8 : gW G_2 = gW G := gW_fr fr_6 (gr_q rfl) (gf_q rfl)
    refine S_calli (va_runV (As := [.int p0, .int p1, .int p2, .int p3]) (rest := []) ⟨hx, hb, hml, hown, hts⟩ (n_wager l D k A a z G_2 p0 p1 p2 p3 (by omega) (by omega)) (cwV 4 hts (gd_V hgd m1967 m1968 m1969 m131 m1970) rfl rfl rfl hd_X12_wager ⟨Nat.le_of_ble_eq_true rfl, Nat.le_of_ble_eq_true rfl⟩) (pre_W hW hB_G_2 hK hZ hS kd_66 rfl) rfl rfl hl.1 rfl (lv_room (Nat.le_of_ble_eq_true rfl)) dL_law_1190 ⟨Nat.le_of_ble_eq_true rfl, Nat.le_of_ble_eq_true rfl⟩) hS (fun r_9 G_10 H locs hpo hW hS => ?_)
    have hX_13 : Q_wager p0 p1 p2 p3 G_2 r_9 G_10 := hpo
    obtain ⟨hB_G_10, hq_11, -⟩ := hpo
    have u_14 := L_wager_2 hX_5 hX_13 rfl rfl rfl rfl (by omega)
    refine lv_pop hx hb dL_law_1193 rfl ?_
    refine lv_goto (tgt := 1641) hx hb dL_law_1194 rfl ?_
    exact K G_10 _ _ _ (Or.inr (LI_of_2 (LIn_fr_2 (LIn_fr_2 (show LIn_2 G from ⟨hv_0_0, hv_0_1, hv_6_4, hj0, hj1, hj2, hj3, hj4, hj5, hj6, hj7, hj8, hj9, hj10, hj11⟩) hq_3 (by decide +kernel)) hq_11 (by decide +kernel)) (by omega))) hB_G_10 hW hS (lv_sub hl [0, 1, 2, 3] rfl)
