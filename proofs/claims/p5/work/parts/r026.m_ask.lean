theorem m97 : Cond.selects RX12 yX12_lay yX12_lay ∈ gd := gd_mem 97 (by decide +kernel) (by decide +kernel)
theorem m98 : Cond.selects RX12 yX12_goOn yX12_goOn ∈ gd := gd_mem 98 (by decide +kernel) (by decide +kernel)
theorem m99 : Cond.selects RX12 yX12_isEven yX12_isEven ∈ gd := gd_mem 99 (by decide +kernel) (by decide +kernel)
theorem m100 : Cond.selects RX12 yX12_comesToEnd yX12_comesToEnd ∈ gd := gd_mem 100 (by decide +kernel) (by decide +kernel)
theorem m1866 : Cond.methodLink RX12 512 yX12_lay ∈ gd := gd_mem 1866 (by decide +kernel) (by decide +kernel)
theorem m1868 : Cond.instanceMethod yX12_lay ∈ gd := gd_mem 1868 (by decide +kernel) (by decide +kernel)
theorem m1869 : Cond.code yX12_lay cX12_lay 2 none ∈ gd := gd_mem 1869 (by decide +kernel) (by decide +kernel)
theorem m1875 : Cond.methodLink RX12 519 yX12_goOn ∈ gd := gd_mem 1875 (by decide +kernel) (by decide +kernel)
theorem m1877 : Cond.instanceMethod yX12_goOn ∈ gd := gd_mem 1877 (by decide +kernel) (by decide +kernel)
theorem m1878 : Cond.code yX12_goOn cX12_goOn 5 none ∈ gd := gd_mem 1878 (by decide +kernel) (by decide +kernel)
theorem m1887 : Cond.methodLink RX12 526 yX12_isEven ∈ gd := gd_mem 1887 (by decide +kernel) (by decide +kernel)
theorem m1889 : Cond.instanceMethod yX12_isEven ∈ gd := gd_mem 1889 (by decide +kernel) (by decide +kernel)
theorem m1890 : Cond.code yX12_isEven cX12_isEven 6 (some .boolean) ∈ gd := gd_mem 1890 (by decide +kernel) (by decide +kernel)
theorem m1899 : Cond.methodLink RX12 529 yX12_comesToEnd ∈ gd := gd_mem 1899 (by decide +kernel) (by decide +kernel)
theorem m1901 : Cond.instanceMethod yX12_comesToEnd ∈ gd := gd_mem 1901 (by decide +kernel) (by decide +kernel)
theorem m1902 : Cond.code yX12_comesToEnd cX12_comesToEnd 4 (some .boolean) ∈ gd := gd_mem 1902 (by decide +kernel) (by decide +kernel)
theorem dX12_comesToEnd_0 : decode cX12_comesToEnd 0 = .ok (.iload_n 1, 1) := by decide +kernel
theorem dX12_comesToEnd_1 : decode cX12_comesToEnd 1 = .ok (.istore_n 3, 1) := by decide +kernel
theorem dX12_comesToEnd_2 : decode cX12_comesToEnd 2 = .ok (.aload_n 0, 1) := by decide +kernel
theorem dX12_comesToEnd_3 : decode cX12_comesToEnd 3 = .ok (.getfield 115, 3) := by decide +kernel
theorem dX12_comesToEnd_6 : decode cX12_comesToEnd 6 = .ok (.iload_n 3, 1) := by decide +kernel
theorem dX12_comesToEnd_7 : decode cX12_comesToEnd 7 = .ok (.baload, 1) := by decide +kernel
theorem dX12_comesToEnd_8 : decode cX12_comesToEnd 8 = .ok (.ifCond .eq 18, 3) := by decide +kernel
theorem dX12_comesToEnd_11 : decode cX12_comesToEnd 11 = .ok (.aload_n 0, 1) := by decide +kernel
theorem dX12_comesToEnd_12 : decode cX12_comesToEnd 12 = .ok (.iload_n 3, 1) := by decide +kernel
theorem dX12_comesToEnd_13 : decode cX12_comesToEnd 13 = .ok (.invokevirtual 499, 3) := by decide +kernel
theorem dX12_comesToEnd_16 : decode cX12_comesToEnd 16 = .ok (.ifCond .ne 10, 3) := by decide +kernel
theorem dX12_comesToEnd_19 : decode cX12_comesToEnd 19 = .ok (.iload_n 3, 1) := by decide +kernel
theorem dX12_comesToEnd_20 : decode cX12_comesToEnd 20 = .ok (.iload_n 2, 1) := by decide +kernel
theorem dX12_comesToEnd_21 : decode cX12_comesToEnd 21 = .ok (.iadd, 1) := by decide +kernel
theorem dX12_comesToEnd_22 : decode cX12_comesToEnd 22 = .ok (.istore_n 3, 1) := by decide +kernel
theorem dX12_comesToEnd_23 : decode cX12_comesToEnd 23 = .ok (.goto (-21), 3) := by decide +kernel
theorem dX12_comesToEnd_26 : decode cX12_comesToEnd 26 = .ok (.aload_n 0, 1) := by decide +kernel
theorem dX12_comesToEnd_27 : decode cX12_comesToEnd 27 = .ok (.getfield 115, 3) := by decide +kernel
theorem dX12_comesToEnd_30 : decode cX12_comesToEnd 30 = .ok (.iload_n 3, 1) := by decide +kernel
theorem dX12_comesToEnd_31 : decode cX12_comesToEnd 31 = .ok (.baload, 1) := by decide +kernel
theorem dX12_comesToEnd_32 : decode cX12_comesToEnd 32 = .ok (.ireturn, 1) := by decide +kernel
theorem dX12_even_0 : decode cX12_even 0 = .ok (.aload_n 0, 1) := by decide +kernel
theorem dX12_even_1 : decode cX12_even 1 = .ok (.iload_n 1, 1) := by decide +kernel
theorem dX12_even_2 : decode cX12_even 2 = .ok (.iload_n 2, 1) := by decide +kernel
theorem dX12_even_3 : decode cX12_even 3 = .ok (.iload_n 3, 1) := by decide +kernel
theorem dX12_even_4 : decode cX12_even 4 = .ok (.invokevirtual 490, 3) := by decide +kernel
theorem dX12_even_7 : decode cX12_even 7 = .ok (.ifCond .eq 24, 3) := by decide +kernel
theorem dX12_even_10 : decode cX12_even 10 = .ok (.aload_n 0, 1) := by decide +kernel
theorem dX12_even_11 : decode cX12_even 11 = .ok (.iload_n 2, 1) := by decide +kernel
theorem dX12_even_12 : decode cX12_even 12 = .ok (.iload 4, 2) := by decide +kernel
theorem dX12_even_14 : decode cX12_even 14 = .ok (.invokevirtual 456, 3) := by decide +kernel
theorem dX12_even_17 : decode cX12_even 17 = .ok (.ifCond .eq 14, 3) := by decide +kernel
theorem dX12_even_20 : decode cX12_even 20 = .ok (.iload 5, 2) := by decide +kernel
theorem dX12_even_22 : decode cX12_even 22 = .ok (.iconst 1, 1) := by decide +kernel
theorem dX12_even_23 : decode cX12_even 23 = .ok (.bipush 99, 2) := by decide +kernel
theorem dX12_even_25 : decode cX12_even 25 = .ok (.invokestatic 449, 3) := by decide +kernel
theorem dX12_even_28 : decode cX12_even 28 = .ok (.ifCond .ne 5, 3) := by decide +kernel
theorem dX12_even_31 : decode cX12_even 31 = .ok (.iconst (-1), 1) := by decide +kernel
theorem dX12_even_32 : decode cX12_even 32 = .ok (.ireturn, 1) := by decide +kernel
theorem dX12_even_33 : decode cX12_even 33 = .ok (.aload_n 0, 1) := by decide +kernel
theorem dX12_even_34 : decode cX12_even 34 = .ok (.iload_n 1, 1) := by decide +kernel
theorem dX12_even_35 : decode cX12_even 35 = .ok (.iload_n 2, 1) := by decide +kernel
theorem dX12_even_36 : decode cX12_even 36 = .ok (.iload_n 3, 1) := by decide +kernel
theorem dX12_even_37 : decode cX12_even 37 = .ok (.invokevirtual 493, 3) := by decide +kernel
theorem dX12_even_40 : decode cX12_even 40 = .ok (.iconst 0, 1) := by decide +kernel
theorem dX12_even_41 : decode cX12_even 41 = .ok (.istore 6, 2) := by decide +kernel
theorem dX12_even_43 : decode cX12_even 43 = .ok (.iload 4, 2) := by decide +kernel
theorem dX12_even_45 : decode cX12_even 45 = .ok (.istore 7, 2) := by decide +kernel
theorem dX12_even_47 : decode cX12_even 47 = .ok (.iload 7, 2) := by decide +kernel
theorem dX12_even_49 : decode cX12_even 49 = .ok (.sipush 400, 3) := by decide +kernel
theorem dX12_even_52 : decode cX12_even 52 = .ok (.if_icmp .ge 26, 3) := by decide +kernel
theorem dX12_even_55 : decode cX12_even 55 = .ok (.aload_n 0, 1) := by decide +kernel
theorem dX12_even_56 : decode cX12_even 56 = .ok (.getfield 115, 3) := by decide +kernel
theorem dX12_even_59 : decode cX12_even 59 = .ok (.iload 7, 2) := by decide +kernel
theorem dX12_even_61 : decode cX12_even 61 = .ok (.baload, 1) := by decide +kernel
theorem dX12_even_62 : decode cX12_even 62 = .ok (.ifCond .eq 16, 3) := by decide +kernel
theorem dX12_even_65 : decode cX12_even 65 = .ok (.iinc 6 1, 3) := by decide +kernel
theorem dX12_even_68 : decode cX12_even 68 = .ok (.iload 7, 2) := by decide +kernel
theorem dX12_even_70 : decode cX12_even 70 = .ok (.iload 5, 2) := by decide +kernel
theorem dX12_even_72 : decode cX12_even 72 = .ok (.iadd, 1) := by decide +kernel
theorem dX12_even_73 : decode cX12_even 73 = .ok (.istore 7, 2) := by decide +kernel
theorem dX12_even_75 : decode cX12_even 75 = .ok (.goto (-28), 3) := by decide +kernel
theorem dX12_even_78 : decode cX12_even 78 = .ok (.iload 6, 2) := by decide +kernel
theorem dX12_even_80 : decode cX12_even 80 = .ok (.ireturn, 1) := by decide +kernel
theorem dX12_evenest_0 : decode cX12_evenest 0 = .ok (.aload_n 0, 1) := by decide +kernel
theorem dX12_evenest_1 : decode cX12_evenest 1 = .ok (.iload_n 1, 1) := by decide +kernel
theorem dX12_evenest_2 : decode cX12_evenest 2 = .ok (.iload_n 2, 1) := by decide +kernel
theorem dX12_evenest_3 : decode cX12_evenest 3 = .ok (.iload_n 3, 1) := by decide +kernel
theorem dX12_evenest_4 : decode cX12_evenest 4 = .ok (.invokevirtual 490, 3) := by decide +kernel
theorem dX12_evenest_7 : decode cX12_evenest 7 = .ok (.ifCond .eq 13, 3) := by decide +kernel
theorem dX12_evenest_10 : decode cX12_evenest 10 = .ok (.iload 4, 2) := by decide +kernel
theorem dX12_evenest_12 : decode cX12_evenest 12 = .ok (.iconst 0, 1) := by decide +kernel
theorem dX12_evenest_13 : decode cX12_evenest 13 = .ok (.iconst 1, 1) := by decide +kernel
theorem dX12_evenest_14 : decode cX12_evenest 14 = .ok (.invokestatic 449, 3) := by decide +kernel
theorem dX12_evenest_17 : decode cX12_evenest 17 = .ok (.ifCond .ne 5, 3) := by decide +kernel
theorem dX12_evenest_20 : decode cX12_evenest 20 = .ok (.iconst (-1), 1) := by decide +kernel
theorem dX12_evenest_21 : decode cX12_evenest 21 = .ok (.ireturn, 1) := by decide +kernel
theorem dX12_evenest_22 : decode cX12_evenest 22 = .ok (.aload_n 0, 1) := by decide +kernel
theorem dX12_evenest_23 : decode cX12_evenest 23 = .ok (.iload_n 1, 1) := by decide +kernel
theorem dX12_evenest_24 : decode cX12_evenest 24 = .ok (.iload_n 2, 1) := by decide +kernel
theorem dX12_evenest_25 : decode cX12_evenest 25 = .ok (.iload_n 3, 1) := by decide +kernel
theorem dX12_evenest_26 : decode cX12_evenest 26 = .ok (.invokevirtual 493, 3) := by decide +kernel
theorem dX12_evenest_29 : decode cX12_evenest 29 = .ok (.iconst 0, 1) := by decide +kernel
theorem dX12_evenest_30 : decode cX12_evenest 30 = .ok (.istore 5, 2) := by decide +kernel
theorem dX12_evenest_32 : decode cX12_evenest 32 = .ok (.iload 5, 2) := by decide +kernel
theorem dX12_evenest_34 : decode cX12_evenest 34 = .ok (.aload_n 0, 1) := by decide +kernel
theorem dX12_evenest_35 : decode cX12_evenest 35 = .ok (.getfield 478, 3) := by decide +kernel
theorem dX12_evenest_38 : decode cX12_evenest 38 = .ok (.aload_n 0, 1) := by decide +kernel
theorem dX12_evenest_39 : decode cX12_evenest 39 = .ok (.getfield 475, 3) := by decide +kernel
theorem dX12_evenest_42 : decode cX12_evenest 42 = .ok (.isub, 1) := by decide +kernel
theorem dX12_evenest_43 : decode cX12_evenest 43 = .ok (.if_icmp .gt 60, 3) := by decide +kernel
theorem dX12_evenest_46 : decode cX12_evenest 46 = .ok (.aload_n 0, 1) := by decide +kernel
theorem dX12_evenest_47 : decode cX12_evenest 47 = .ok (.getfield 475, 3) := by decide +kernel
theorem dX12_evenest_50 : decode cX12_evenest 50 = .ok (.istore 6, 2) := by decide +kernel
theorem dX12_evenest_52 : decode cX12_evenest 52 = .ok (.iload 6, 2) := by decide +kernel
theorem dX12_evenest_54 : decode cX12_evenest 54 = .ok (.iload 5, 2) := by decide +kernel
theorem dX12_evenest_56 : decode cX12_evenest 56 = .ok (.iadd, 1) := by decide +kernel
theorem dX12_evenest_57 : decode cX12_evenest 57 = .ok (.aload_n 0, 1) := by decide +kernel
theorem dX12_evenest_58 : decode cX12_evenest 58 = .ok (.getfield 478, 3) := by decide +kernel
theorem dX12_evenest_61 : decode cX12_evenest 61 = .ok (.if_icmp .gt 36, 3) := by decide +kernel
theorem dX12_evenest_64 : decode cX12_evenest 64 = .ok (.aload_n 0, 1) := by decide +kernel
theorem dX12_evenest_65 : decode cX12_evenest 65 = .ok (.iload 6, 2) := by decide +kernel
theorem dX12_evenest_67 : decode cX12_evenest 67 = .ok (.iload 6, 2) := by decide +kernel
theorem dX12_evenest_69 : decode cX12_evenest 69 = .ok (.iload 5, 2) := by decide +kernel
theorem dX12_evenest_71 : decode cX12_evenest 71 = .ok (.iadd, 1) := by decide +kernel
theorem dX12_evenest_72 : decode cX12_evenest 72 = .ok (.invokevirtual 526, 3) := by decide +kernel
theorem dX12_evenest_75 : decode cX12_evenest 75 = .ok (.ifCond .eq 16, 3) := by decide +kernel
theorem dX12_evenest_78 : decode cX12_evenest 78 = .ok (.iload 4, 2) := by decide +kernel
theorem dX12_evenest_80 : decode cX12_evenest 80 = .ok (.ifCond .ne 8, 3) := by decide +kernel
theorem dX12_evenest_83 : decode cX12_evenest 83 = .ok (.iload 5, 2) := by decide +kernel
theorem dX12_evenest_85 : decode cX12_evenest 85 = .ok (.goto 5, 3) := by decide +kernel
theorem dX12_evenest_88 : decode cX12_evenest 88 = .ok (.iload 6, 2) := by decide +kernel
theorem dX12_evenest_90 : decode cX12_evenest 90 = .ok (.ireturn, 1) := by decide +kernel
theorem dX12_evenest_91 : decode cX12_evenest 91 = .ok (.iinc 6 1, 3) := by decide +kernel
theorem dX12_evenest_94 : decode cX12_evenest 94 = .ok (.goto (-42), 3) := by decide +kernel
theorem dX12_evenest_97 : decode cX12_evenest 97 = .ok (.iinc 5 1, 3) := by decide +kernel
theorem dX12_evenest_100 : decode cX12_evenest 100 = .ok (.goto (-68), 3) := by decide +kernel
theorem dX12_evenest_103 : decode cX12_evenest 103 = .ok (.iconst (-1), 1) := by decide +kernel
theorem dX12_evenest_104 : decode cX12_evenest 104 = .ok (.ireturn, 1) := by decide +kernel
theorem dX12_evens_0 : decode cX12_evens 0 = .ok (.aload_n 0, 1) := by decide +kernel
theorem dX12_evens_1 : decode cX12_evens 1 = .ok (.iconst 0, 1) := by decide +kernel
theorem dX12_evens_2 : decode cX12_evens 2 = .ok (.putfield 446, 3) := by decide +kernel
theorem dX12_evens_5 : decode cX12_evens 5 = .ok (.aload_n 0, 1) := by decide +kernel
theorem dX12_evens_6 : decode cX12_evens 6 = .ok (.iload_n 1, 1) := by decide +kernel
theorem dX12_evens_7 : decode cX12_evens 7 = .ok (.iload_n 2, 1) := by decide +kernel
theorem dX12_evens_8 : decode cX12_evens 8 = .ok (.iload_n 3, 1) := by decide +kernel
theorem dX12_evens_9 : decode cX12_evens 9 = .ok (.invokevirtual 490, 3) := by decide +kernel
theorem dX12_evens_12 : decode cX12_evens 12 = .ok (.ifCond .ne 5, 3) := by decide +kernel
theorem dX12_evens_15 : decode cX12_evens 15 = .ok (.iconst (-1), 1) := by decide +kernel
theorem dX12_evens_16 : decode cX12_evens 16 = .ok (.ireturn, 1) := by decide +kernel
theorem dX12_evens_17 : decode cX12_evens 17 = .ok (.aload_n 0, 1) := by decide +kernel
theorem dX12_evens_18 : decode cX12_evens 18 = .ok (.iload_n 1, 1) := by decide +kernel
theorem dX12_evens_19 : decode cX12_evens 19 = .ok (.iload_n 2, 1) := by decide +kernel
theorem dX12_evens_20 : decode cX12_evens 20 = .ok (.iload_n 3, 1) := by decide +kernel
theorem dX12_evens_21 : decode cX12_evens 21 = .ok (.invokevirtual 493, 3) := by decide +kernel
theorem dX12_evens_24 : decode cX12_evens 24 = .ok (.aload_n 0, 1) := by decide +kernel
theorem dX12_evens_25 : decode cX12_evens 25 = .ok (.getfield 475, 3) := by decide +kernel
theorem dX12_evens_28 : decode cX12_evens 28 = .ok (.istore 4, 2) := by decide +kernel
theorem dX12_evens_30 : decode cX12_evens 30 = .ok (.iload 4, 2) := by decide +kernel
theorem dX12_evens_32 : decode cX12_evens 32 = .ok (.aload_n 0, 1) := by decide +kernel
theorem dX12_evens_33 : decode cX12_evens 33 = .ok (.getfield 478, 3) := by decide +kernel
theorem dX12_evens_36 : decode cX12_evens 36 = .ok (.if_icmp .gt 56, 3) := by decide +kernel
theorem dX12_evens_39 : decode cX12_evens 39 = .ok (.iconst 0, 1) := by decide +kernel
theorem dX12_evens_40 : decode cX12_evens 40 = .ok (.istore 5, 2) := by decide +kernel
theorem dX12_evens_42 : decode cX12_evens 42 = .ok (.iconst 0, 1) := by decide +kernel
theorem dX12_evens_43 : decode cX12_evens 43 = .ok (.istore 6, 2) := by decide +kernel
theorem dX12_evens_45 : decode cX12_evens 45 = .ok (.iload 6, 2) := by decide +kernel
theorem dX12_evens_47 : decode cX12_evens 47 = .ok (.aload_n 0, 1) := by decide +kernel
theorem dX12_evens_48 : decode cX12_evens 48 = .ok (.getfield 478, 3) := by decide +kernel
theorem dX12_evens_51 : decode cX12_evens 51 = .ok (.if_icmp .ge 24, 3) := by decide +kernel
theorem dX12_evens_54 : decode cX12_evens 54 = .ok (.iload 5, 2) := by decide +kernel
theorem dX12_evens_56 : decode cX12_evens 56 = .ok (.ifCond .ne 19, 3) := by decide +kernel
theorem dX12_evens_59 : decode cX12_evens 59 = .ok (.aload_n 0, 1) := by decide +kernel
theorem dX12_evens_60 : decode cX12_evens 60 = .ok (.iload 6, 2) := by decide +kernel
theorem dX12_evens_62 : decode cX12_evens 62 = .ok (.iload 4, 2) := by decide +kernel
theorem dX12_evens_64 : decode cX12_evens 64 = .ok (.invokevirtual 529, 3) := by decide +kernel
theorem dX12_evens_67 : decode cX12_evens 67 = .ok (.istore 5, 2) := by decide +kernel
theorem dX12_evens_69 : decode cX12_evens 69 = .ok (.iinc 6 1, 3) := by decide +kernel
theorem dX12_evens_72 : decode cX12_evens 72 = .ok (.goto (-27), 3) := by decide +kernel
theorem dX12_evens_75 : decode cX12_evens 75 = .ok (.iload 5, 2) := by decide +kernel
theorem dX12_evens_77 : decode cX12_evens 77 = .ok (.ifCond .eq 9, 3) := by decide +kernel
theorem dX12_evens_80 : decode cX12_evens 80 = .ok (.aload_n 0, 1) := by decide +kernel
theorem dX12_evens_81 : decode cX12_evens 81 = .ok (.iload 4, 2) := by decide +kernel
theorem dX12_evens_83 : decode cX12_evens 83 = .ok (.invokevirtual 512, 3) := by decide +kernel
theorem dX12_evens_86 : decode cX12_evens 86 = .ok (.iinc 4 1, 3) := by decide +kernel
theorem dX12_evens_89 : decode cX12_evens 89 = .ok (.goto (-59), 3) := by decide +kernel
theorem dX12_evens_92 : decode cX12_evens 92 = .ok (.aload_n 0, 1) := by decide +kernel
theorem dX12_evens_93 : decode cX12_evens 93 = .ok (.getfield 446, 3) := by decide +kernel
theorem dX12_evens_96 : decode cX12_evens 96 = .ok (.ireturn, 1) := by decide +kernel
theorem dX12_ways_0 : decode cX12_ways 0 = .ok (.aload_n 0, 1) := by decide +kernel
theorem dX12_ways_1 : decode cX12_ways 1 = .ok (.iload_n 1, 1) := by decide +kernel
theorem dX12_ways_2 : decode cX12_ways 2 = .ok (.iload_n 2, 1) := by decide +kernel
theorem dX12_ways_3 : decode cX12_ways 3 = .ok (.iload_n 3, 1) := by decide +kernel
theorem dX12_ways_4 : decode cX12_ways 4 = .ok (.invokevirtual 490, 3) := by decide +kernel
theorem dX12_ways_7 : decode cX12_ways 7 = .ok (.ifCond .eq 14, 3) := by decide +kernel
theorem dX12_ways_10 : decode cX12_ways 10 = .ok (.iload 4, 2) := by decide +kernel
theorem dX12_ways_12 : decode cX12_ways 12 = .ok (.iconst 1, 1) := by decide +kernel
theorem dX12_ways_13 : decode cX12_ways 13 = .ok (.bipush 60, 2) := by decide +kernel
theorem dX12_ways_15 : decode cX12_ways 15 = .ok (.invokestatic 449, 3) := by decide +kernel
theorem dX12_ways_18 : decode cX12_ways 18 = .ok (.ifCond .ne 7, 3) := by decide +kernel
theorem dX12_ways_21 : decode cX12_ways 21 = .ok (.ldc2_w 517, 3) := by decide +kernel
theorem dX12_ways_24 : decode cX12_ways 24 = .ok (.lreturn, 1) := by decide +kernel
theorem dX12_ways_25 : decode cX12_ways 25 = .ok (.aload_n 0, 1) := by decide +kernel
theorem dX12_ways_26 : decode cX12_ways 26 = .ok (.iload_n 1, 1) := by decide +kernel
theorem dX12_ways_27 : decode cX12_ways 27 = .ok (.iload_n 2, 1) := by decide +kernel
theorem dX12_ways_28 : decode cX12_ways 28 = .ok (.iload_n 3, 1) := by decide +kernel
theorem dX12_ways_29 : decode cX12_ways 29 = .ok (.invokevirtual 493, 3) := by decide +kernel
theorem dX12_ways_32 : decode cX12_ways 32 = .ok (.iconst 0, 1) := by decide +kernel
theorem dX12_ways_33 : decode cX12_ways 33 = .ok (.istore 5, 2) := by decide +kernel
theorem dX12_ways_35 : decode cX12_ways 35 = .ok (.iload 5, 2) := by decide +kernel
theorem dX12_ways_37 : decode cX12_ways 37 = .ok (.sipush 1024, 3) := by decide +kernel
theorem dX12_ways_40 : decode cX12_ways 40 = .ok (.if_icmp .ge 61, 3) := by decide +kernel
theorem dX12_ways_43 : decode cX12_ways 43 = .ok (.aload_n 0, 1) := by decide +kernel
theorem dX12_ways_44 : decode cX12_ways 44 = .ok (.getfield 124, 3) := by decide +kernel
theorem dX12_ways_47 : decode cX12_ways 47 = .ok (.iload 5, 2) := by decide +kernel
theorem dX12_ways_49 : decode cX12_ways 49 = .ok (.iload 5, 2) := by decide +kernel
theorem dX12_ways_51 : decode cX12_ways 51 = .ok (.iconst 2, 1) := by decide +kernel
theorem dX12_ways_52 : decode cX12_ways 52 = .ok (.irem, 1) := by decide +kernel
theorem dX12_ways_53 : decode cX12_ways 53 = .ok (.ifCond .ne 40, 3) := by decide +kernel
theorem dX12_ways_56 : decode cX12_ways 56 = .ok (.iload 5, 2) := by decide +kernel
theorem dX12_ways_58 : decode cX12_ways 58 = .ok (.iconst 2, 1) := by decide +kernel
theorem dX12_ways_59 : decode cX12_ways 59 = .ok (.idiv, 1) := by decide +kernel
theorem dX12_ways_60 : decode cX12_ways 60 = .ok (.aload_n 0, 1) := by decide +kernel
theorem dX12_ways_61 : decode cX12_ways 61 = .ok (.getfield 478, 3) := by decide +kernel
theorem dX12_ways_64 : decode cX12_ways 64 = .ok (.if_icmp .ge 29, 3) := by decide +kernel
theorem dX12_ways_67 : decode cX12_ways 67 = .ok (.iload 5, 2) := by decide +kernel
theorem dX12_ways_69 : decode cX12_ways 69 = .ok (.iconst 2, 1) := by decide +kernel
theorem dX12_ways_70 : decode cX12_ways 70 = .ok (.idiv, 1) := by decide +kernel
theorem dX12_ways_71 : decode cX12_ways 71 = .ok (.sipush 400, 3) := by decide +kernel
theorem dX12_ways_74 : decode cX12_ways 74 = .ok (.if_icmp .ge 19, 3) := by decide +kernel
theorem dX12_ways_77 : decode cX12_ways 77 = .ok (.aload_n 0, 1) := by decide +kernel
theorem dX12_ways_78 : decode cX12_ways 78 = .ok (.getfield 115, 3) := by decide +kernel
theorem dX12_ways_81 : decode cX12_ways 81 = .ok (.iload 5, 2) := by decide +kernel
theorem dX12_ways_83 : decode cX12_ways 83 = .ok (.iconst 2, 1) := by decide +kernel
theorem dX12_ways_84 : decode cX12_ways 84 = .ok (.idiv, 1) := by decide +kernel
theorem dX12_ways_85 : decode cX12_ways 85 = .ok (.baload, 1) := by decide +kernel
theorem dX12_ways_86 : decode cX12_ways 86 = .ok (.ifCond .eq 7, 3) := by decide +kernel
theorem dX12_ways_89 : decode cX12_ways 89 = .ok (.lconst 1, 1) := by decide +kernel
theorem dX12_ways_90 : decode cX12_ways 90 = .ok (.goto 4, 3) := by decide +kernel
theorem dX12_ways_93 : decode cX12_ways 93 = .ok (.lconst 0, 1) := by decide +kernel
theorem dX12_ways_94 : decode cX12_ways 94 = .ok (.lastore, 1) := by decide +kernel
theorem dX12_ways_95 : decode cX12_ways 95 = .ok (.iinc 5 1, 3) := by decide +kernel
theorem dX12_ways_98 : decode cX12_ways 98 = .ok (.goto (-63), 3) := by decide +kernel
theorem dX12_ways_101 : decode cX12_ways 101 = .ok (.iconst 1, 1) := by decide +kernel
theorem dX12_ways_102 : decode cX12_ways 102 = .ok (.istore 5, 2) := by decide +kernel
theorem dX12_ways_104 : decode cX12_ways 104 = .ok (.iload 5, 2) := by decide +kernel
theorem dX12_ways_106 : decode cX12_ways 106 = .ok (.iload 4, 2) := by decide +kernel
theorem dX12_ways_108 : decode cX12_ways 108 = .ok (.if_icmp .ge 111, 3) := by decide +kernel
theorem dX12_ways_111 : decode cX12_ways 111 = .ok (.iconst 0, 1) := by decide +kernel
theorem dX12_ways_112 : decode cX12_ways 112 = .ok (.istore 6, 2) := by decide +kernel
theorem dX12_ways_114 : decode cX12_ways 114 = .ok (.iload 6, 2) := by decide +kernel
theorem dX12_ways_116 : decode cX12_ways 116 = .ok (.sipush 1024, 3) := by decide +kernel
theorem dX12_ways_119 : decode cX12_ways 119 = .ok (.if_icmp .ge 17, 3) := by decide +kernel
theorem dX12_ways_122 : decode cX12_ways 122 = .ok (.aload_n 0, 1) := by decide +kernel
theorem dX12_ways_123 : decode cX12_ways 123 = .ok (.getfield 127, 3) := by decide +kernel
theorem dX12_ways_126 : decode cX12_ways 126 = .ok (.iload 6, 2) := by decide +kernel
theorem dX12_ways_128 : decode cX12_ways 128 = .ok (.lconst 0, 1) := by decide +kernel
theorem dX12_ways_129 : decode cX12_ways 129 = .ok (.lastore, 1) := by decide +kernel
theorem dX12_ways_130 : decode cX12_ways 130 = .ok (.iinc 6 1, 3) := by decide +kernel
theorem dX12_ways_133 : decode cX12_ways 133 = .ok (.goto (-19), 3) := by decide +kernel
theorem dX12_ways_136 : decode cX12_ways 136 = .ok (.iconst 0, 1) := by decide +kernel
theorem dX12_ways_137 : decode cX12_ways 137 = .ok (.istore 6, 2) := by decide +kernel
theorem dX12_ways_139 : decode cX12_ways 139 = .ok (.iload 6, 2) := by decide +kernel
theorem dX12_ways_141 : decode cX12_ways 141 = .ok (.sipush 800, 3) := by decide +kernel
theorem dX12_ways_144 : decode cX12_ways 144 = .ok (.if_icmp .ge 38, 3) := by decide +kernel
theorem dX12_ways_147 : decode cX12_ways 147 = .ok (.aload_n 0, 1) := by decide +kernel
theorem dX12_ways_148 : decode cX12_ways 148 = .ok (.getfield 124, 3) := by decide +kernel
theorem dX12_ways_151 : decode cX12_ways 151 = .ok (.iload 6, 2) := by decide +kernel
theorem dX12_ways_153 : decode cX12_ways 153 = .ok (.laload, 1) := by decide +kernel
theorem dX12_ways_154 : decode cX12_ways 154 = .ok (.lconst 0, 1) := by decide +kernel
theorem dX12_ways_155 : decode cX12_ways 155 = .ok (.lcmp, 1) := by decide +kernel
theorem dX12_ways_156 : decode cX12_ways 156 = .ok (.ifCond .le 20, 3) := by decide +kernel
theorem dX12_ways_159 : decode cX12_ways 159 = .ok (.aload_n 0, 1) := by decide +kernel
theorem dX12_ways_160 : decode cX12_ways 160 = .ok (.iload 6, 2) := by decide +kernel
theorem dX12_ways_162 : decode cX12_ways 162 = .ok (.iconst 2, 1) := by decide +kernel
theorem dX12_ways_163 : decode cX12_ways 163 = .ok (.idiv, 1) := by decide +kernel
theorem dX12_ways_164 : decode cX12_ways 164 = .ok (.invokevirtual 499, 3) := by decide +kernel
theorem dX12_ways_167 : decode cX12_ways 167 = .ok (.ifCond .ne 9, 3) := by decide +kernel
theorem dX12_ways_170 : decode cX12_ways 170 = .ok (.aload_n 0, 1) := by decide +kernel
theorem dX12_ways_171 : decode cX12_ways 171 = .ok (.iload 6, 2) := by decide +kernel
theorem dX12_ways_173 : decode cX12_ways 173 = .ok (.invokevirtual 519, 3) := by decide +kernel
theorem dX12_ways_176 : decode cX12_ways 176 = .ok (.iinc 6 1, 3) := by decide +kernel
theorem dX12_ways_179 : decode cX12_ways 179 = .ok (.goto (-40), 3) := by decide +kernel
theorem dX12_ways_182 : decode cX12_ways 182 = .ok (.iconst 0, 1) := by decide +kernel
theorem dX12_ways_183 : decode cX12_ways 183 = .ok (.istore 6, 2) := by decide +kernel
theorem dX12_ways_185 : decode cX12_ways 185 = .ok (.iload 6, 2) := by decide +kernel
theorem dX12_ways_187 : decode cX12_ways 187 = .ok (.sipush 1024, 3) := by decide +kernel
theorem dX12_ways_190 : decode cX12_ways 190 = .ok (.if_icmp .ge 23, 3) := by decide +kernel
theorem dX12_ways_193 : decode cX12_ways 193 = .ok (.aload_n 0, 1) := by decide +kernel
theorem dX12_ways_194 : decode cX12_ways 194 = .ok (.getfield 124, 3) := by decide +kernel
theorem dX12_ways_197 : decode cX12_ways 197 = .ok (.iload 6, 2) := by decide +kernel
theorem dX12_ways_199 : decode cX12_ways 199 = .ok (.aload_n 0, 1) := by decide +kernel
theorem dX12_ways_200 : decode cX12_ways 200 = .ok (.getfield 127, 3) := by decide +kernel
theorem dX12_ways_203 : decode cX12_ways 203 = .ok (.iload 6, 2) := by decide +kernel
theorem dX12_ways_205 : decode cX12_ways 205 = .ok (.laload, 1) := by decide +kernel
theorem dX12_ways_206 : decode cX12_ways 206 = .ok (.lastore, 1) := by decide +kernel
theorem dX12_ways_207 : decode cX12_ways 207 = .ok (.iinc 6 1, 3) := by decide +kernel
theorem dX12_ways_210 : decode cX12_ways 210 = .ok (.goto (-25), 3) := by decide +kernel
theorem dX12_ways_213 : decode cX12_ways 213 = .ok (.iinc 5 1, 3) := by decide +kernel
theorem dX12_ways_216 : decode cX12_ways 216 = .ok (.goto (-112), 3) := by decide +kernel
theorem dX12_ways_219 : decode cX12_ways 219 = .ok (.lconst 0, 1) := by decide +kernel
theorem dX12_ways_220 : decode cX12_ways 220 = .ok (.lstore 5, 2) := by decide +kernel
theorem dX12_ways_222 : decode cX12_ways 222 = .ok (.iconst 0, 1) := by decide +kernel
theorem dX12_ways_223 : decode cX12_ways 223 = .ok (.istore 7, 2) := by decide +kernel
theorem dX12_ways_225 : decode cX12_ways 225 = .ok (.iload 7, 2) := by decide +kernel
theorem dX12_ways_227 : decode cX12_ways 227 = .ok (.sipush 800, 3) := by decide +kernel
theorem dX12_ways_230 : decode cX12_ways 230 = .ok (.if_icmp .ge 35, 3) := by decide +kernel
theorem dX12_ways_233 : decode cX12_ways 233 = .ok (.aload_n 0, 1) := by decide +kernel
theorem dX12_ways_234 : decode cX12_ways 234 = .ok (.iload 7, 2) := by decide +kernel
theorem dX12_ways_236 : decode cX12_ways 236 = .ok (.iconst 2, 1) := by decide +kernel
theorem dX12_ways_237 : decode cX12_ways 237 = .ok (.idiv, 1) := by decide +kernel
theorem dX12_ways_238 : decode cX12_ways 238 = .ok (.invokevirtual 499, 3) := by decide +kernel
theorem dX12_ways_241 : decode cX12_ways 241 = .ok (.ifCond .eq 18, 3) := by decide +kernel
theorem dX12_ways_244 : decode cX12_ways 244 = .ok (.lload 5, 2) := by decide +kernel
theorem dX12_ways_246 : decode cX12_ways 246 = .ok (.aload_n 0, 1) := by decide +kernel
theorem dX12_ways_247 : decode cX12_ways 247 = .ok (.getfield 124, 3) := by decide +kernel
theorem dX12_ways_250 : decode cX12_ways 250 = .ok (.iload 7, 2) := by decide +kernel
theorem dX12_ways_252 : decode cX12_ways 252 = .ok (.laload, 1) := by decide +kernel
theorem dX12_ways_253 : decode cX12_ways 253 = .ok (.ladd, 1) := by decide +kernel
theorem dX12_ways_254 : decode cX12_ways 254 = .ok (.invokestatic 522, 3) := by decide +kernel
theorem dX12_ways_257 : decode cX12_ways 257 = .ok (.lstore 5, 2) := by decide +kernel
theorem dX12_ways_259 : decode cX12_ways 259 = .ok (.iinc 7 1, 3) := by decide +kernel
theorem dX12_ways_262 : decode cX12_ways 262 = .ok (.goto (-37), 3) := by decide +kernel
theorem dX12_ways_265 : decode cX12_ways 265 = .ok (.lload 5, 2) := by decide +kernel
theorem dX12_ways_267 : decode cX12_ways 267 = .ok (.lreturn, 1) := by decide +kernel
set_option maxHeartbeats 4000000 in
set_option maxRecDepth 100000 in
theorem n_comesToEnd (l : Launch) (D : va_G) (k : KT) (A : Nat → Prop) (a : Nat → Nat) (z : SK) (G : GS) (p0 : Int32) (p1 : Int32) (ha_p0 : 0 ≤ p0.toInt ∧ p0.toInt ≤ 60) (ha_p1 : 1 ≤ p1.toInt ∧ p1.toInt ≤ 60) : Met l yX12_comesToEnd (WS yX12_comesToEnd cX12_comesToEnd 4 (some .boolean)) ({ frames := 2, cells := 0, slots := 0, locals := 42 }) (va_Pc [.ref (a 66), .int p0, .int p1] (cW D k A a z G)) (va_Qi (fun (r : Int32) (G1 : GS) => Bd G1 ∧ Fr [] [] G G1 ∧ (0 ≤ r.toInt ∧ r.toInt ≤ 1)) (fun (G1 : GS) t => Wd D k A a G1 t.heap) A) 0 0 A := by
  refine Met.ofW (cc := cX12_comesToEnd) (maxL := 4) (ret := (some .boolean)) (by decide) rfl ?_
  intro p e s m args below meth c s₁ B hml hv
  obtain ⟨rfl, hW, hB_G, hK, hZ⟩ := hv
  have hx := B.exec
  have hb := B.bytes
  have hr := B.returns
  have hts := atoms_spec (ws := WS yX12_comesToEnd cX12_comesToEnd 4 (some .boolean)) B.pre
  have hgd : ∀ w ∈ gd, w ∈ WS yX12_comesToEnd cX12_comesToEnd 4 (some .boolean) := fun w h => List.mem_cons_of_mem _ h
  have hg : ∀ w ∈ gd, w.before _ s = true := fun w h => hts w (hgd w h)
  have hown : s.vm.findClass RX12 = some m.cls := findClass_of_methodNamed B.named
  have hS : va_S A s.heap s.heap [] := va_S.rf
  have hF : Fr [] [] G G := Fr.rf
  have hl := lv_entry ([.ref (a 66), .int p0, .int p1]) (n := 4) (Nat.le_of_ble_eq_true rfl)
  rw [lg_entry_eq]
  generalize (lg_sl ([.ref (a 66), .int p0, .int p1]) ++ List.replicate (4 - (lg_sl ([.ref (a 66), .int p0, .int p1])).length) Slot.unset).toArray = ls at hl ⊢
  have hl : lv_has ls 4 [(0, .ref (a 66)), (1, .int p0), (2, .int p1)] := hl
  refine lv_iload_n hx hb dX12_comesToEnd_0 rfl (lv_at hl 1 rfl) ?_
  refine lv_istore_n (lv' := [(3, .int p0), (0, .ref (a 66)), (1, .int p0), (2, .int p1)]) hx hb dX12_comesToEnd_1 rfl hl (by decide) rfl (fun ls hl => ?_)
  refine loop_N (Inv := fun n H locs ls => ∃ (G_1 : GS) (x_5 : Int32), (n : Int) = 511 - x_5.toInt ∧ (0 ≤ x_5.toInt ∧ x_5.toInt ≤ 511) ∧ Wd D k A a G_1 H ∧ Bd G_1 ∧ Fr [] [] G G_1 ∧ Fr [] [] G G_1 ∧ va_S A s.heap H locs ∧ lv_has ls 4 [(3, .int x_5), (0, .ref (a 66)), (2, .int p1)]) (fun n_4 H locs ls ih_3 hI => ?_) (511 - p0.toInt : Int).toNat ⟨G, p0, (Int.toNat_of_nonneg (by omega)), ⟨by omega, by omega⟩, hW, hB_G, hF, Fr.rf, hS, lv_sub hl [0, 1, 3] rfl⟩
  obtain ⟨G_1, x_5, hn_7, f_6, hW, hB_G_1, hF, hq_2, hS, hl⟩ := hI
  refine lv_aload_n hx hb dX12_comesToEnd_2 rfl (lv_at hl 1 rfl) ?_
  refine S_getR (n := 98) (C := RX12) (T := TX12) (N := 89) hx hb hg iX12 hown hK hW kd_66 rfl 58 (by decide) (hg (Cond.fieldLink RX12 115 "SlabWalkModel" "lawful" "[Z") m1372) (fun _ h9 => h9) rfl dX12_comesToEnd_3 ?_
  refine lv_iload_n hx hb dX12_comesToEnd_6 rfl (lv_at hl 0 rfl) ?_
  refine S_zald hx hb hK hW kd_98 (vin (by omega) (by omega)) dX12_comesToEnd_7 (fun y_8 ey_8 => ?_)
  have ty_8 := hB_G_1.law ey_8
  refine lv_if_eq (tgt := 26) hx hb dX12_comesToEnd_8 (by decide) (fun c_9 => ?_) (fun c_9 => ?_)
  · have c_9 : y_8.toInt = 0 := xI_eq rfl rfl c_9
    refine lv_aload_n hx hb dX12_comesToEnd_26 rfl (lv_at hl 1 rfl) ?_
    refine S_getR (n := 98) (C := RX12) (T := TX12) (N := 89) hx hb hg iX12 hown hK hW kd_66 rfl 58 (by decide) (hg (Cond.fieldLink RX12 115 "SlabWalkModel" "lawful" "[Z") m1372) (fun _ h9 => h9) rfl dX12_comesToEnd_27 ?_
    refine lv_iload_n hx hb dX12_comesToEnd_30 rfl (lv_at hl 0 rfl) ?_
    refine S_zald hx hb hK hW kd_98 (vin (by omega) (by omega)) dX12_comesToEnd_31 (fun y_10 ey_10 => ?_)
    have ty_10 := hB_G_1.law ey_10
    exact W.zret (v := y_10) hx hb hr (nar_z (by omega) (by omega)) (fun t ht _ => ⟨⟨y_10, G_1, rfl, ⟨hB_G_1, hF, ⟨by omega, by omega⟩⟩, wd_t ht hW⟩, hS.F ht⟩) hS.2.2 dX12_comesToEnd_32
  · have c_9 : y_8.toInt ≠ 0 := xI_ne rfl rfl c_9
    refine lv_aload_n hx hb dX12_comesToEnd_11 rfl (lv_at hl 1 rfl) ?_
    refine lv_iload_n hx hb dX12_comesToEnd_12 rfl (lv_at hl 0 rfl) ?_
    have b_11 : 0 ≤ (G.1 66 59).toInt ∧ (G.1 66 59).toInt ≤ 400 := hB_G.i 66 59 rfl rfl
    have g_12 : (G_1.1 66 59).toInt = (G.1 66 59).toInt := by rw [show G_1.1 66 59 = (G.1 66 59) from (hq_2.i 66 59 (by decide) (by decide))]
    have b_13 : 0 ≤ (G.1 66 60).toInt ∧ (G.1 66 60).toInt ≤ 12 := hB_G.i 66 60 rfl rfl
    have g_14 : (G_1.1 66 60).toInt = (G.1 66 60).toInt := by rw [show G_1.1 66 60 = (G.1 66 60) from (hq_2.i 66 60 (by decide) (by decide))]
    have b_15 : 0 ≤ (G.1 66 62).toInt ∧ (G.1 66 62).toInt ≤ 60 := hB_G.i 66 62 rfl rfl
    have g_16 : (G_1.1 66 62).toInt = (G.1 66 62).toInt := by rw [show G_1.1 66 62 = (G.1 66 62) from (hq_2.i 66 62 (by decide) (by decide))]
    refine S_calli (va_runV (As := [.int x_5]) (rest := []) ⟨hx, hb, hml, hown, hts⟩ (n_isEnd l D k A a z G_1 x_5 ⟨by omega, by omega⟩) (cwV 1 hts (gd_V hgd m1854 m1856 m95 m131 m1857) rfl rfl rfl (by decide +kernel) ⟨Nat.le_of_ble_eq_true rfl, Nat.le_of_ble_eq_true rfl⟩) (pre_V hW hB_G_1 hK hZ hS kd_66 rfl) rfl rfl hl.1 rfl (lv_room (Nat.le_of_ble_eq_true rfl)) dX12_comesToEnd_13 ⟨Nat.le_of_ble_eq_true rfl, Nat.le_of_ble_eq_true rfl⟩) hS (fun r_17 G_18 H locs hpo hW hS => ?_)
    obtain ⟨hB_G_18, hq_19, f_21, hp_20⟩ := hpo
    have hF := hF.call hq_19 (by decide) (by decide)
    refine lv_if_ne (tgt := 26) hx hb dX12_comesToEnd_16 (by decide) (fun c_22 => ?_) (fun c_22 => ?_)
    · have c_22 : r_17.toInt ≠ 0 := xI_ne rfl rfl c_22
      refine lv_aload_n hx hb dX12_comesToEnd_26 rfl (lv_at hl 1 rfl) ?_
      refine S_getR (n := 98) (C := RX12) (T := TX12) (N := 89) hx hb hg iX12 hown hK hW kd_66 rfl 58 (by decide) (hg (Cond.fieldLink RX12 115 "SlabWalkModel" "lawful" "[Z") m1372) (fun _ h9 => h9) rfl dX12_comesToEnd_27 ?_
      refine lv_iload_n hx hb dX12_comesToEnd_30 rfl (lv_at hl 0 rfl) ?_
      refine S_zald hx hb hK hW kd_98 (vin (by omega) (by omega)) dX12_comesToEnd_31 (fun y_23 ey_23 => ?_)
      have ty_23 := hB_G_18.law ey_23
      exact W.zret (v := y_23) hx hb hr (nar_z (by omega) (by omega)) (fun t ht _ => ⟨⟨y_23, G_18, rfl, ⟨hB_G_18, hF, ⟨by omega, by omega⟩⟩, wd_t ht hW⟩, hS.F ht⟩) hS.2.2 dX12_comesToEnd_32
    · have c_22 : r_17.toInt = 0 := xI_eq rfl rfl c_22
      refine lv_iload_n hx hb dX12_comesToEnd_19 rfl (lv_at hl 0 rfl) ?_
      refine lv_iload_n hx hb dX12_comesToEnd_20 rfl (lv_at hl 2 rfl) ?_
      refine lv_iadd hx hb dX12_comesToEnd_21 ?_
      refine lv_topi (fun y_24 ey_24 => ?_)
      have ty_24 : y_24.toInt = x_5.toInt + p1.toInt := xI_add rfl rfl ey_24 (by omega) (by omega)
      refine lv_istore_n (lv' := [(3, .int y_24), (0, .ref (a 66)), (2, .int p1)]) hx hb dX12_comesToEnd_22 rfl hl (by decide) rfl (fun ls hl => ?_)
      refine lv_goto (tgt := 2) hx hb dX12_comesToEnd_23 (by decide) ?_
      exact ih_3 (511 - y_24.toInt : Int).toNat (by omega) _ _ _ ⟨G_18, y_24, (Int.toNat_of_nonneg (by omega)), ⟨by omega, by omega⟩, hW, hB_G_18, hF, ((Fr.rf.call hq_2 (by decide) (by decide)).call hq_19 (by decide) (by decide)), hS, lv_sub hl [0, 1, 2] rfl⟩

set_option maxHeartbeats 4000000 in
set_option maxRecDepth 100000 in
theorem n_even (l : Launch) (D : va_G) (k : KT) (A : Nat → Prop) (a : Nat → Nat) (z : SK) (G : GS) (p0 : Int32) (p1 : Int32) (p2 : Int32) (p3 : Int32) (p4 : Int32) (hP9 : gP G = 1) : Met l yX12_even (WS yX12_even cX12_even 8 (some .int)) ({ frames := 5, cells := 0, slots := 0, locals := 117 }) (va_Pc [.ref (a 66), .int p0, .int p1, .int p2, .int p3, .int p4] (cW D k A a z G)) (va_Qi (fun (r : Int32) (G1 : GS) => Bd G1 ∧ Fr [76, 97, 98] [(66, 59), (66, 60), (66, 61), (66, 62), (66, 63)] G G1) (fun (G1 : GS) t => Wd D k A a G1 t.heap) A) 0 0 A := by
  refine Met.ofW (cc := cX12_even) (maxL := 8) (ret := (some .int)) (by decide) rfl ?_
  intro p e s m args below meth c s₁ B hml hv
  obtain ⟨rfl, hW, hB_G, hK, hZ⟩ := hv
  have hx := B.exec
  have hb := B.bytes
  have hr := B.returns
  have hts := atoms_spec (ws := WS yX12_even cX12_even 8 (some .int)) B.pre
  have hgd : ∀ w ∈ gd, w ∈ WS yX12_even cX12_even 8 (some .int) := fun w h => List.mem_cons_of_mem _ h
  have hg : ∀ w ∈ gd, w.before _ s = true := fun w h => hts w (hgd w h)
  have hown : s.vm.findClass RX12 = some m.cls := findClass_of_methodNamed B.named
  have hS : va_S A s.heap s.heap [] := va_S.rf
  have hF : Fr [76, 97, 98] [(66, 59), (66, 60), (66, 61), (66, 62), (66, 63)] G G := Fr.rf
  have hl := lv_entry ([.ref (a 66), .int p0, .int p1, .int p2, .int p3, .int p4]) (n := 8) (Nat.le_of_ble_eq_true rfl)
  rw [lg_entry_eq]
  generalize (lg_sl ([.ref (a 66), .int p0, .int p1, .int p2, .int p3, .int p4]) ++ List.replicate (8 - (lg_sl ([.ref (a 66), .int p0, .int p1, .int p2, .int p3, .int p4])).length) Slot.unset).toArray = ls at hl ⊢
  have hl : lv_has ls 8 [(0, .ref (a 66)), (1, .int p0), (2, .int p1), (3, .int p2), (4, .int p3), (5, .int p4)] := hl
  refine lv_aload_n hx hb dX12_even_0 rfl (lv_at hl 0 rfl) ?_
  refine lv_iload_n hx hb dX12_even_1 rfl (lv_at hl 1 rfl) ?_
  refine lv_iload_n hx hb dX12_even_2 rfl (lv_at hl 2 rfl) ?_
  refine lv_iload_n hx hb dX12_even_3 rfl (lv_at hl 3 rfl) ?_
  refine S_calli (va_runV (As := [.int p0, .int p1, .int p2]) (rest := []) ⟨hx, hb, hml, hown, hts⟩ (n_isAsked l D k A a z G p0 p1 p2 ) (cwV 3 hts (gd_V hgd m1826 m1828 m89 m131 m1829) rfl rfl rfl (by decide +kernel) ⟨Nat.le_of_ble_eq_true rfl, Nat.le_of_ble_eq_true rfl⟩) (pre_V hW hB_G hK hZ hS kd_66 rfl) rfl rfl hl.1 rfl (lv_room (Nat.le_of_ble_eq_true rfl)) dX12_even_4 ⟨Nat.le_of_ble_eq_true rfl, Nat.le_of_ble_eq_true rfl⟩) hS (fun r_1 G_2 H locs hpo hW hS => ?_)
  obtain ⟨hB_G_2, hq_3, f_5, hp_4⟩ := hpo
  have hF := hF.call hq_3 (by decide) (by decide)
  refine lv_if_eq (tgt := 31) hx hb dX12_even_7 (by decide) (fun c_6 => ?_) (fun c_6 => ?_)
  · have c_6 : r_1.toInt = 0 := xI_eq rfl rfl c_6
    refine lv_iconst (v := (-1)) hx hb dX12_even_31 (by decide) ?_
    exact W.iret (v := (-1)) hx hb hr (fun t ht _ => ⟨⟨(-1), G_2, rfl, ⟨hB_G_2, hF⟩, wd_t ht hW⟩, hS.F ht⟩) hS.2.2 dX12_even_32
  · have c_6 : r_1.toInt ≠ 0 := xI_ne rfl rfl c_6
    refine lv_aload_n hx hb dX12_even_10 rfl (lv_at hl 0 rfl) ?_
    refine lv_iload_n hx hb dX12_even_11 rfl (lv_at hl 2 rfl) ?_
    refine lv_iload hx hb dX12_even_12 (lv_at hl 4 rfl) ?_
    refine S_calli (va_runV (As := [.int p1, .int p3]) (rest := []) ⟨hx, hb, hml, hown, hts⟩ (n_isInch l D k A a z G_2 p1 p3 ⟨by omega, by omega⟩) (cwV 2 hts (gd_V hgd m1784 m1786 m84 m131 m1787) rfl rfl rfl (by decide +kernel) ⟨Nat.le_of_ble_eq_true rfl, Nat.le_of_ble_eq_true rfl⟩) (pre_V hW hB_G_2 hK hZ hS kd_66 rfl) rfl rfl hl.1 rfl (lv_room (Nat.le_of_ble_eq_true rfl)) dX12_even_14 ⟨Nat.le_of_ble_eq_true rfl, Nat.le_of_ble_eq_true rfl⟩) hS (fun r_7 G_8 H locs hpo hW hS => ?_)
    obtain ⟨hB_G_8, hq_9, f_11, hp_10⟩ := hpo
    have hF := hF.call hq_9 (by decide) (by decide)
    refine lv_if_eq (tgt := 31) hx hb dX12_even_17 (by decide) (fun c_12 => ?_) (fun c_12 => ?_)
    · have c_12 : r_7.toInt = 0 := xI_eq rfl rfl c_12
      refine lv_iconst (v := (-1)) hx hb dX12_even_31 (by decide) ?_
      exact W.iret (v := (-1)) hx hb hr (fun t ht _ => ⟨⟨(-1), G_8, rfl, ⟨hB_G_8, hF⟩, wd_t ht hW⟩, hS.F ht⟩) hS.2.2 dX12_even_32
    · have c_12 : r_7.toInt ≠ 0 := xI_ne rfl rfl c_12
      refine lv_iload hx hb dX12_even_20 (lv_at hl 5 rfl) ?_
      refine lv_iconst (v := 1) hx hb dX12_even_22 (by decide) ?_
      refine lv_bipush (v := 99) hx hb dX12_even_23 (by decide) ?_
      have qc_13 : (1 : Int32).toInt = 1 := rfl
      have qc_14 : (99 : Int32).toInt = 99 := rfl
      refine S_calli (va_runS (As := [.int p4, .int 1, .int 99]) (rest := []) ⟨hx, hb, hml, hown, hts⟩ (n_isIn l D k A a z G_8 p4 1 99 ) (va_cwS 3 hts (gd_S hgd m1781 m1782 m131 m1783) rfl rfl rfl (by decide +kernel) ⟨Nat.le_of_ble_eq_true rfl, Nat.le_of_ble_eq_true rfl⟩) (pre_S hW hB_G_8 hK hZ hS) rfl rfl hl.1 rfl (lv_room (Nat.le_of_ble_eq_true rfl)) dX12_even_25 ⟨Nat.le_of_ble_eq_true rfl, Nat.le_of_ble_eq_true rfl⟩) hS (fun r_15 G_16 H locs hpo hW hS => ?_)
      obtain ⟨hB_G_16, hq_17, f_19, hp_18⟩ := hpo
      have hF := hF.call hq_17 (by decide) (by decide)
      refine lv_if_ne (tgt := 33) hx hb dX12_even_28 (by decide) (fun c_20 => ?_) (fun c_20 => ?_)
      · have c_20 : r_15.toInt ≠ 0 := xI_ne rfl rfl c_20
        refine lv_aload_n hx hb dX12_even_33 rfl (lv_at hl 0 rfl) ?_
        refine lv_iload_n hx hb dX12_even_34 rfl (lv_at hl 1 rfl) ?_
        refine lv_iload_n hx hb dX12_even_35 rfl (lv_at hl 2 rfl) ?_
        refine lv_iload_n hx hb dX12_even_36 rfl (lv_at hl 3 rfl) ?_
        have g_21 : gP G_16 = gP G := gP_fr (rs := []) (fs := []) (((Fr.rf.call hq_3 (by decide) (by decide)).call hq_9 (by decide) (by decide)).call hq_17 (by decide) (by decide)) (by decide) (by decide)
        refine S_callv (va_runV (As := [.int p0, .int p1, .int p2]) (rest := []) ⟨hx, hb, hml, hown, hts⟩ (n_layStreet l D k A a z G_16 p0 p1 p2 ⟨by omega, by omega⟩ ⟨by omega, by omega⟩ (by omega)) (cwV 3 hts (gd_V hgd m1834 m1836 m91 m131 m1837) rfl rfl rfl (by decide +kernel) ⟨Nat.le_of_ble_eq_true rfl, Nat.le_of_ble_eq_true rfl⟩) (pre_V hW hB_G_16 hK hZ hS kd_66 rfl) rfl rfl hl.1 rfl (lv_room (Nat.le_of_ble_eq_true rfl)) dX12_even_37 ⟨Nat.le_of_ble_eq_true rfl, Nat.le_of_ble_eq_true rfl⟩) hS (fun G_23 H locs hpo hW hS => ?_)
        obtain ⟨hB_G_23, hq_24, hp_25⟩ := hpo
        have hF := hF.call hq_24 (by decide) (by decide)
        refine lv_iconst (v := 0) hx hb dX12_even_40 (by decide) ?_
        refine lv_istore (lv' := [(6, .int 0), (0, .ref (a 66)), (1, .int p0), (2, .int p1), (3, .int p2), (4, .int p3), (5, .int p4)]) hx hb dX12_even_41 hl (by decide) rfl (fun ls hl => ?_)
        refine lv_iload hx hb dX12_even_43 (lv_at hl 5 rfl) ?_
        refine lv_istore (lv' := [(7, .int p3), (6, .int 0), (0, .ref (a 66)), (1, .int p0), (2, .int p1), (3, .int p2), (4, .int p3), (5, .int p4)]) hx hb dX12_even_45 hl (by decide) rfl (fun ls hl => ?_)
        have qc_32 : (0 : Int32).toInt = 0 := rfl
        refine loop_N (Inv := fun n H locs ls => ∃ (G_26 : GS) (x_30 : Int32) (x_31 : Int32), (n : Int) = 600 - x_30.toInt ∧ (0 ≤ x_30.toInt ∧ x_30.toInt ≤ 500) ∧ Wd D k A a G_26 H ∧ Bd G_26 ∧ Fr [76, 97, 98] [(66, 59), (66, 60), (66, 61), (66, 62), (66, 63)] G G_26 ∧ Fr [] [] G_23 G_26 ∧ va_S A s.heap H locs ∧ lv_has ls 8 [(7, .int x_30), (6, .int x_31), (0, .ref (a 66)), (5, .int p4)]) (fun n_29 H locs ls ih_28 hI => ?_) (600 - p3.toInt : Int).toNat ⟨G_23, p3, 0, (Int.toNat_of_nonneg (by omega)), ⟨by omega, by omega⟩, hW, hB_G_23, hF, Fr.rf, hS, lv_sub hl [0, 1, 2, 7] rfl⟩
        obtain ⟨G_26, x_30, x_31, hn_34, f_33, hW, hB_G_26, hF, hq_27, hS, hl⟩ := hI
        refine lv_iload hx hb dX12_even_47 (lv_at hl 0 rfl) ?_
        refine lv_sipush (v := 400) hx hb dX12_even_49 (by decide) ?_
        refine lv_icmp_ge (tgt := 78) hx hb dX12_even_52 (by decide) (fun c_35 => ?_) (fun c_35 => ?_)
        · have c_35 : 400 ≤ x_30.toInt := xI_le rfl rfl c_35
          refine lv_iload hx hb dX12_even_78 (lv_at hl 1 rfl) ?_
          exact W.iret (v := x_31) hx hb hr (fun t ht _ => ⟨⟨x_31, G_26, rfl, ⟨hB_G_26, hF⟩, wd_t ht hW⟩, hS.F ht⟩) hS.2.2 dX12_even_80
        · have c_35 : x_30.toInt < 400 := xI_nle rfl rfl c_35
          refine lv_aload_n hx hb dX12_even_55 rfl (lv_at hl 2 rfl) ?_
          refine S_getR (n := 98) (C := RX12) (T := TX12) (N := 89) hx hb hg iX12 hown hK hW kd_66 rfl 58 (by decide) (hg (Cond.fieldLink RX12 115 "SlabWalkModel" "lawful" "[Z") m1372) (fun _ h9 => h9) rfl dX12_even_56 ?_
          refine lv_iload hx hb dX12_even_59 (lv_at hl 0 rfl) ?_
          refine S_zald hx hb hK hW kd_98 (vin (by omega) (by omega)) dX12_even_61 (fun y_36 ey_36 => ?_)
          have ty_36 := hB_G_26.law ey_36
          refine lv_if_eq (tgt := 78) hx hb dX12_even_62 (by decide) (fun c_37 => ?_) (fun c_37 => ?_)
          · have c_37 : y_36.toInt = 0 := xI_eq rfl rfl c_37
            refine lv_iload hx hb dX12_even_78 (lv_at hl 1 rfl) ?_
            exact W.iret (v := x_31) hx hb hr (fun t ht _ => ⟨⟨x_31, G_26, rfl, ⟨hB_G_26, hF⟩, wd_t ht hW⟩, hS.F ht⟩) hS.2.2 dX12_even_80
          · have c_37 : y_36.toInt ≠ 0 := xI_ne rfl rfl c_37
            obtain ⟨y_38, ey_38⟩ : ∃ q, q = x_31 + 1 := ⟨_, rfl⟩
            refine lv_iinc (v := y_38) (lv' := [(6, .int y_38), (7, .int x_30), (0, .ref (a 66)), (5, .int p4)]) hx hb dX12_even_65 hl (k := 1) rfl (by rw [ey_38]; rfl) (by decide) rfl (fun ls hl => ?_)
            refine lv_iload hx hb dX12_even_68 (lv_at hl 1 rfl) ?_
            refine lv_iload hx hb dX12_even_70 (lv_at hl 3 rfl) ?_
            refine lv_iadd hx hb dX12_even_72 ?_
            refine lv_topi (fun y_39 ey_39 => ?_)
            have ty_39 : y_39.toInt = x_30.toInt + p4.toInt := xI_add rfl rfl ey_39 (by omega) (by omega)
            refine lv_istore (lv' := [(7, .int y_39), (6, .int y_38), (0, .ref (a 66)), (5, .int p4)]) hx hb dX12_even_73 hl (by decide) rfl (fun ls hl => ?_)
            refine lv_goto (tgt := 47) hx hb dX12_even_75 (by decide) ?_
            exact ih_28 (600 - y_39.toInt : Int).toNat (by omega) _ _ _ ⟨G_26, y_39, y_38, (Int.toNat_of_nonneg (by omega)), ⟨by omega, by omega⟩, hW, hB_G_26, hF, (Fr.rf.call hq_27 (by decide) (by decide)), hS, lv_sub hl [0, 1, 2, 3] rfl⟩
      · have c_20 : r_15.toInt = 0 := xI_eq rfl rfl c_20
        refine lv_iconst (v := (-1)) hx hb dX12_even_31 (by decide) ?_
        exact W.iret (v := (-1)) hx hb hr (fun t ht _ => ⟨⟨(-1), G_16, rfl, ⟨hB_G_16, hF⟩, wd_t ht hW⟩, hS.F ht⟩) hS.2.2 dX12_even_32

set_option maxHeartbeats 4000000 in
set_option maxRecDepth 100000 in
theorem n_evens (l : Launch) (D : va_G) (k : KT) (A : Nat → Prop) (a : Nat → Nat) (z : SK) (G : GS) (p0 : Int32) (p1 : Int32) (p2 : Int32) (hP9 : gP G = 1) (hW9 : gW G = 1) : Met l yX12_evens (WS yX12_evens cX12_evens 7 (some .int)) ({ frames := 5, cells := 0, slots := 0, locals := 117 }) (va_Pc [.ref (a 66), .int p0, .int p1, .int p2] (cW D k A a z G)) (va_Qi (fun (r : Int32) (G1 : GS) => Bd G1 ∧ Fr [100, 76, 97, 98] [(66, 59), (66, 60), (66, 61), (66, 62), (66, 63), (66, 66)] G G1) (fun (G1 : GS) t => Wd D k A a G1 t.heap) A) 0 0 A := by
  refine Met.ofW (cc := cX12_evens) (maxL := 7) (ret := (some .int)) (by decide) rfl ?_
  intro p e s m args below meth c s₁ B hml hv
  obtain ⟨rfl, hW, hB_G, hK, hZ⟩ := hv
  have hx := B.exec
  have hb := B.bytes
  have hr := B.returns
  have hts := atoms_spec (ws := WS yX12_evens cX12_evens 7 (some .int)) B.pre
  have hgd : ∀ w ∈ gd, w ∈ WS yX12_evens cX12_evens 7 (some .int) := fun w h => List.mem_cons_of_mem _ h
  have hg : ∀ w ∈ gd, w.before _ s = true := fun w h => hts w (hgd w h)
  have hown : s.vm.findClass RX12 = some m.cls := findClass_of_methodNamed B.named
  have hS : va_S A s.heap s.heap [] := va_S.rf
  have hF : Fr [100, 76, 97, 98] [(66, 59), (66, 60), (66, 61), (66, 62), (66, 63), (66, 66)] G G := Fr.rf
  have hl := lv_entry ([.ref (a 66), .int p0, .int p1, .int p2]) (n := 7) (Nat.le_of_ble_eq_true rfl)
  rw [lg_entry_eq]
  generalize (lg_sl ([.ref (a 66), .int p0, .int p1, .int p2]) ++ List.replicate (7 - (lg_sl ([.ref (a 66), .int p0, .int p1, .int p2])).length) Slot.unset).toArray = ls at hl ⊢
  have hl : lv_has ls 7 [(0, .ref (a 66)), (1, .int p0), (2, .int p1), (3, .int p2)] := hl
  refine lv_aload_n hx hb dX12_evens_0 rfl (lv_at hl 0 rfl) ?_
  refine lv_iconst (v := 0) hx hb dX12_evens_1 (by decide) ?_
  refine S_putI (ty := .int) (C := RX12) (T := TX12) (N := 89) hx hb hg iX12 tyX12 tyX12_ok nmX12 hown hK hW hS kd_66 rfl 66 (by decide) (hg (Cond.fieldLink RX12 446 "SlabWalkModel" "lain" "I") m1380) (fun _ h9 => h9) rfl (by decide +kernel) rfl rfl rfl dX12_evens_2 (fun G_1 H locs eG_1 hW hS => ?_)
  have hB_G_1 : Bd G_1 := hB_G.put (V := 0) (lo := 0) (hi := 400) eG_1 rfl rfl rfl (by omega) (by omega) (hB_G.2.put eG_1 rfl)
  have hF := hF.put eG_1 (Or.inr (by decide))
  refine lv_aload_n hx hb dX12_evens_5 rfl (lv_at hl 0 rfl) ?_
  refine lv_iload_n hx hb dX12_evens_6 rfl (lv_at hl 1 rfl) ?_
  refine lv_iload_n hx hb dX12_evens_7 rfl (lv_at hl 2 rfl) ?_
  refine lv_iload_n hx hb dX12_evens_8 rfl (lv_at hl 3 rfl) ?_
  have b_2 : 0 ≤ (G.1 66 52).toInt ∧ (G.1 66 52).toInt ≤ 3 := hB_G.i 66 52 rfl rfl
  have g_3 : (G_1.1 66 52).toInt = (G.1 66 52).toInt := by rw [show G_1.1 66 52 = (G.1 66 52) from (gp_ne eG_1 (by decide))]
  have b_4 : 0 ≤ (G.1 66 53).toInt ∧ (G.1 66 53).toInt ≤ 4 := hB_G.i 66 53 rfl rfl
  have g_5 : (G_1.1 66 53).toInt = (G.1 66 53).toInt := by rw [show G_1.1 66 53 = (G.1 66 53) from (gp_ne eG_1 (by decide))]
  refine S_calli (va_runV (As := [.int p0, .int p1, .int p2]) (rest := []) ⟨hx, hb, hml, hown, hts⟩ (n_isAsked l D k A a z G_1 p0 p1 p2 ) (cwV 3 hts (gd_V hgd m1826 m1828 m89 m131 m1829) rfl rfl rfl (by decide +kernel) ⟨Nat.le_of_ble_eq_true rfl, Nat.le_of_ble_eq_true rfl⟩) (pre_V hW hB_G_1 hK hZ hS kd_66 rfl) rfl rfl hl.1 rfl (lv_room (Nat.le_of_ble_eq_true rfl)) dX12_evens_9 ⟨Nat.le_of_ble_eq_true rfl, Nat.le_of_ble_eq_true rfl⟩) hS (fun r_6 G_7 H locs hpo hW hS => ?_)
  obtain ⟨hB_G_7, hq_8, f_10, hp_9⟩ := hpo
  have hF := hF.call hq_8 (by decide) (by decide)
  refine lv_if_ne (tgt := 17) hx hb dX12_evens_12 (by decide) (fun c_11 => ?_) (fun c_11 => ?_)
  · have c_11 : r_6.toInt ≠ 0 := xI_ne rfl rfl c_11
    refine lv_aload_n hx hb dX12_evens_17 rfl (lv_at hl 0 rfl) ?_
    refine lv_iload_n hx hb dX12_evens_18 rfl (lv_at hl 1 rfl) ?_
    refine lv_iload_n hx hb dX12_evens_19 rfl (lv_at hl 2 rfl) ?_
    refine lv_iload_n hx hb dX12_evens_20 rfl (lv_at hl 3 rfl) ?_
    have g_12 : gP G_7 = gP G := gP_fr (rs := []) (fs := [(66, 66)]) ((Fr.rf.put eG_1 (Or.inr (by decide))).call hq_8 (by decide) (by decide)) (by decide) (by decide)
    refine S_callv (va_runV (As := [.int p0, .int p1, .int p2]) (rest := []) ⟨hx, hb, hml, hown, hts⟩ (n_layStreet l D k A a z G_7 p0 p1 p2 ⟨by omega, by omega⟩ ⟨by omega, by omega⟩ (by omega)) (cwV 3 hts (gd_V hgd m1834 m1836 m91 m131 m1837) rfl rfl rfl (by decide +kernel) ⟨Nat.le_of_ble_eq_true rfl, Nat.le_of_ble_eq_true rfl⟩) (pre_V hW hB_G_7 hK hZ hS kd_66 rfl) rfl rfl hl.1 rfl (lv_room (Nat.le_of_ble_eq_true rfl)) dX12_evens_21 ⟨Nat.le_of_ble_eq_true rfl, Nat.le_of_ble_eq_true rfl⟩) hS (fun G_14 H locs hpo hW hS => ?_)
    obtain ⟨hB_G_14, hq_15, hp_16⟩ := hpo
    have hF := hF.call hq_15 (by decide) (by decide)
    have b_17 : 0 ≤ (G.1 66 53).toInt ∧ (G.1 66 53).toInt ≤ 4 := hB_G.i 66 53 rfl rfl
    have u_18 := gW_at hW9 p0 (by omega) (by omega)
    have u_19 : (G_7.1 92 p0.toNatClampNeg).toInt = (G.1 92 p0.toNatClampNeg).toInt := congrArg Int32.toInt (((hq_8.ri 92 (by decide) (by decide) p0.toNatClampNeg).trans (gp_ne eG_1 (fun q => absurd q.1 (by decide)))))
    have u_20 : (G_7.1 93 p0.toNatClampNeg).toInt = (G.1 93 p0.toNatClampNeg).toInt := congrArg Int32.toInt (((hq_8.ri 93 (by decide) (by decide) p0.toNatClampNeg).trans (gp_ne eG_1 (fun q => absurd q.1 (by decide)))))
    have u_21 : (G_7.1 94 p0.toNatClampNeg).toInt = (G.1 94 p0.toNatClampNeg).toInt := congrArg Int32.toInt (((hq_8.ri 94 (by decide) (by decide) p0.toNatClampNeg).trans (gp_ne eG_1 (fun q => absurd q.1 (by decide)))))
    have u_22 : (G_7.1 95 p0.toNatClampNeg).toInt = (G.1 95 p0.toNatClampNeg).toInt := congrArg Int32.toInt (((hq_8.ri 95 (by decide) (by decide) p0.toNatClampNeg).trans (gp_ne eG_1 (fun q => absurd q.1 (by decide)))))
    have b_23 : 0 ≤ (G_14.1 66 60).toInt ∧ (G_14.1 66 60).toInt ≤ 12 := hB_G_14.i 66 60 rfl rfl
    have b_24 : 0 ≤ (G_14.1 66 61).toInt ∧ (G_14.1 66 61).toInt ≤ 60 := hB_G_14.i 66 61 rfl rfl
    have b_25 : 0 ≤ (G_14.1 66 62).toInt ∧ (G_14.1 66 62).toInt ≤ 60 := hB_G_14.i 66 62 rfl rfl
    have b_26 : 0 ≤ (G_14.1 66 63).toInt ∧ (G_14.1 66 63).toInt ≤ 99 := hB_G_14.i 66 63 rfl rfl
    refine lv_aload_n hx hb dX12_evens_24 rfl (lv_at hl 0 rfl) ?_
    refine S_getI (v := (G_14.1 66 61)) (C := RX12) (T := TX12) (N := 89) hx hb hg iX12 hown hK hW kd_66 rfl 61 (by decide) (hg (Cond.fieldLink RX12 475 "SlabWalkModel" "least" "I") m1375) (fun _ h9 => h9) rfl rfl dX12_evens_25 ?_
    refine lv_istore (lv' := [(4, .int (G_14.1 66 61)), (0, .ref (a 66)), (1, .int p0), (2, .int p1), (3, .int p2)]) hx hb dX12_evens_28 hl (by decide) rfl (fun ls hl => ?_)
    have g_32 : (G_14.1 66 66).toInt = 0 := by rw [show G_14.1 66 66 = 0 from ((hq_15.i 66 66 (by decide) (by decide)).trans ((hq_8.i 66 66 (by decide) (by decide)).trans (gp_eq eG_1)))]; rfl
    refine loop_N (Inv := fun n H locs ls => ∃ (G_27 : GS) (x_31 : Int32), (n : Int) = 61 - x_31.toInt ∧ (1 ≤ x_31.toInt ∧ x_31.toInt ≤ 61) ∧ ((G_27.1 66 66).toInt ≤ x_31.toInt) ∧ Wd D k A a G_27 H ∧ Bd G_27 ∧ Fr [100, 76, 97, 98] [(66, 59), (66, 60), (66, 61), (66, 62), (66, 63), (66, 66)] G G_27 ∧ Fr [100] [(66, 66)] G_14 G_27 ∧ va_S A s.heap H locs ∧ lv_has ls 7 [(4, .int x_31), (0, .ref (a 66))]) (fun n_30 H locs ls ih_29 hI => ?_) (61 - (G_14.1 66 61).toInt : Int).toNat ⟨G_14, (G_14.1 66 61), (Int.toNat_of_nonneg (by omega)), ⟨by omega, by omega⟩, (by omega), hW, hB_G_14, hF, Fr.rf, hS, lv_sub hl [0, 1] rfl⟩
    obtain ⟨G_27, x_31, hn_35, f_33, f_34, hW, hB_G_27, hF, hq_28, hS, hl⟩ := hI
    have b_36 : 0 ≤ (G_27.1 66 66).toInt ∧ (G_27.1 66 66).toInt ≤ 400 := hB_G_27.i 66 66 rfl rfl
    refine lv_iload hx hb dX12_evens_30 (lv_at hl 0 rfl) ?_
    refine lv_aload_n hx hb dX12_evens_32 rfl (lv_at hl 1 rfl) ?_
    refine S_getI (v := (G_14.1 66 62)) (C := RX12) (T := TX12) (N := 89) hx hb hg iX12 hown hK hW kd_66 rfl 62 (by decide) (hg (Cond.fieldLink RX12 478 "SlabWalkModel" "most" "I") m1376) (fun _ h9 => h9) rfl ((hq_28.i 66 62 (by decide) (by decide)).trans (rfl)) dX12_evens_33 ?_
    refine lv_icmp_gt (tgt := 92) hx hb dX12_evens_36 (by decide) (fun c_37 => ?_) (fun c_37 => ?_)
    · have c_37 : (G_14.1 66 62).toInt < x_31.toInt := xI_lt rfl rfl c_37
      refine lv_aload_n hx hb dX12_evens_92 rfl (lv_at hl 1 rfl) ?_
      refine S_getI (v := (G_27.1 66 66)) (C := RX12) (T := TX12) (N := 89) hx hb hg iX12 hown hK hW kd_66 rfl 66 (by decide) (hg (Cond.fieldLink RX12 446 "SlabWalkModel" "lain" "I") m1380) (fun _ h9 => h9) rfl rfl dX12_evens_93 ?_
      exact W.iret (v := (G_27.1 66 66)) hx hb hr (fun t ht _ => ⟨⟨(G_27.1 66 66), G_27, rfl, ⟨hB_G_27, hF⟩, wd_t ht hW⟩, hS.F ht⟩) hS.2.2 dX12_evens_96
    · have c_37 : x_31.toInt ≤ (G_14.1 66 62).toInt := xI_nlt rfl rfl c_37
      refine lv_iconst (v := 0) hx hb dX12_evens_39 (by decide) ?_
      refine lv_istore (lv' := [(5, .int 0), (4, .int x_31), (0, .ref (a 66))]) hx hb dX12_evens_40 hl (by decide) rfl (fun ls hl => ?_)
      refine lv_iconst (v := 0) hx hb dX12_evens_42 (by decide) ?_
      refine lv_istore (lv' := [(6, .int 0), (5, .int 0), (4, .int x_31), (0, .ref (a 66))]) hx hb dX12_evens_43 hl (by decide) rfl (fun ls hl => ?_)
      have qc_44 : (0 : Int32).toInt = 0 := rfl
      refine loop_N (Inv := fun n H locs ls => ∃ (G_38 : GS) (x_42 : Int32) (x_43 : Int32), (n : Int) = 60 - x_42.toInt ∧ (0 ≤ x_42.toInt ∧ x_42.toInt ≤ 60) ∧ (0 ≤ x_43.toInt ∧ x_43.toInt ≤ 1) ∧ Wd D k A a G_38 H ∧ Bd G_38 ∧ Fr [100, 76, 97, 98] [(66, 59), (66, 60), (66, 61), (66, 62), (66, 63), (66, 66)] G G_38 ∧ Fr [] [] G_27 G_38 ∧ va_S A s.heap H locs ∧ lv_has ls 7 [(6, .int x_42), (5, .int x_43), (4, .int x_31), (0, .ref (a 66))]) (fun n_41 H locs ls ih_40 hI => ?_) (60 - 0 : Int).toNat ⟨G_27, 0, 0, (Int.toNat_of_nonneg (by omega)), ⟨by omega, by omega⟩, ⟨by omega, by omega⟩, hW, hB_G_27, hF, Fr.rf, hS, lv_sub hl [0, 1, 2, 3] rfl⟩
      obtain ⟨G_38, x_42, x_43, hn_47, f_45, f_46, hW, hB_G_38, hF, hq_39, hS, hl⟩ := hI
      refine lv_iload hx hb dX12_evens_45 (lv_at hl 0 rfl) ?_
      refine lv_aload_n hx hb dX12_evens_47 rfl (lv_at hl 3 rfl) ?_
      refine S_getI (v := (G_14.1 66 62)) (C := RX12) (T := TX12) (N := 89) hx hb hg iX12 hown hK hW kd_66 rfl 62 (by decide) (hg (Cond.fieldLink RX12 478 "SlabWalkModel" "most" "I") m1376) (fun _ h9 => h9) rfl ((hq_39.i 66 62 (by decide) (by decide)).trans ((hq_28.i 66 62 (by decide) (by decide)).trans (rfl))) dX12_evens_48 ?_
      refine lv_icmp_ge (tgt := 75) hx hb dX12_evens_51 (by decide) (fun c_48 => ?_) (fun c_48 => ?_)
      · have c_48 : (G_14.1 66 62).toInt ≤ x_42.toInt := xI_le rfl rfl c_48
        refine lv_iload hx hb dX12_evens_75 (lv_at hl 1 rfl) ?_
        refine lv_if_eq (tgt := 86) hx hb dX12_evens_77 (by decide) (fun c_49 => ?_) (fun c_49 => ?_)
        · have c_49 : x_43.toInt = 0 := xI_eq rfl rfl c_49
          obtain ⟨y_50, ey_50⟩ : ∃ q, q = x_31 + 1 := ⟨_, rfl⟩
          have ty_50 : y_50.toInt = x_31.toInt + 1 := xI_add rfl rfl ey_50 (by omega) (by omega)
          refine lv_iinc (v := y_50) (lv' := [(4, .int y_50), (6, .int x_42), (5, .int x_43), (0, .ref (a 66))]) hx hb dX12_evens_86 hl (k := 2) rfl (by rw [ey_50]; rfl) (by decide) rfl (fun ls hl => ?_)
          refine lv_goto (tgt := 30) hx hb dX12_evens_89 (by decide) ?_
          have g_51 : (G_38.1 66 66).toInt = (G_27.1 66 66).toInt := by rw [show G_38.1 66 66 = (G_27.1 66 66) from ((hq_39.i 66 66 (by decide) (by decide)).trans (rfl))]
          exact ih_29 (61 - y_50.toInt : Int).toNat (by omega) _ _ _ ⟨G_38, y_50, (Int.toNat_of_nonneg (by omega)), ⟨by omega, by omega⟩, (by omega), hW, hB_G_38, hF, ((Fr.rf.call hq_28 (by decide) (by decide)).call hq_39 (by decide) (by decide)), hS, lv_sub hl [0, 3] rfl⟩
        · have c_49 : x_43.toInt ≠ 0 := xI_ne rfl rfl c_49
          refine lv_aload_n hx hb dX12_evens_80 rfl (lv_at hl 3 rfl) ?_
          refine lv_iload hx hb dX12_evens_81 (lv_at hl 2 rfl) ?_
          have g_52 : (G_38.1 66 66).toInt = (G_27.1 66 66).toInt := by rw [show G_38.1 66 66 = (G_27.1 66 66) from ((hq_39.i 66 66 (by decide) (by decide)).trans (rfl))]
          have g_53 : (G_38.1 66 66).toInt = (G_27.1 66 66).toInt := by rw [show G_38.1 66 66 = (G_27.1 66 66) from ((hq_39.i 66 66 (by decide) (by decide)).trans (rfl))]
          refine S_callv (va_runV (As := [.int x_31]) (rest := []) ⟨hx, hb, hml, hown, hts⟩ (n_lay l D k A a z G_38 x_31 (by omega)) (cwV 1 hts (gd_V hgd m1866 m1868 m97 m131 m1869) rfl rfl rfl (by decide +kernel) ⟨Nat.le_of_ble_eq_true rfl, Nat.le_of_ble_eq_true rfl⟩) (pre_V hW hB_G_38 hK hZ hS kd_66 rfl) rfl rfl hl.1 rfl (lv_room (Nat.le_of_ble_eq_true rfl)) dX12_evens_83 ⟨Nat.le_of_ble_eq_true rfl, Nat.le_of_ble_eq_true rfl⟩) hS (fun G_55 H locs hpo hW hS => ?_)
          obtain ⟨hB_G_55, hq_56, hp_57⟩ := hpo
          have hF := hF.call hq_56 (by decide) (by decide)
          obtain ⟨y_58, ey_58⟩ : ∃ q, q = x_31 + 1 := ⟨_, rfl⟩
          have ty_58 : y_58.toInt = x_31.toInt + 1 := xI_add rfl rfl ey_58 (by omega) (by omega)
          refine lv_iinc (v := y_58) (lv' := [(4, .int y_58), (6, .int x_42), (5, .int x_43), (0, .ref (a 66))]) hx hb dX12_evens_86 hl (k := 2) rfl (by rw [ey_58]; rfl) (by decide) rfl (fun ls hl => ?_)
          refine lv_goto (tgt := 30) hx hb dX12_evens_89 (by decide) ?_
          have b_59 : 0 ≤ (G_55.1 66 66).toInt ∧ (G_55.1 66 66).toInt ≤ 400 := hB_G_55.i 66 66 rfl rfl
          exact ih_29 (61 - y_58.toInt : Int).toNat (by omega) _ _ _ ⟨G_55, y_58, (Int.toNat_of_nonneg (by omega)), ⟨by omega, by omega⟩, (by omega), hW, hB_G_55, hF, (((Fr.rf.call hq_28 (by decide) (by decide)).call hq_39 (by decide) (by decide)).call hq_56 (by decide) (by decide)), hS, lv_sub hl [0, 3] rfl⟩
      · have c_48 : x_42.toInt < (G_14.1 66 62).toInt := xI_nle rfl rfl c_48
        refine lv_iload hx hb dX12_evens_54 (lv_at hl 1 rfl) ?_
        refine lv_if_ne (tgt := 75) hx hb dX12_evens_56 (by decide) (fun c_60 => ?_) (fun c_60 => ?_)
        · have c_60 : x_43.toInt ≠ 0 := xI_ne rfl rfl c_60
          refine lv_iload hx hb dX12_evens_75 (lv_at hl 1 rfl) ?_
          refine lv_if_eq (tgt := 86) hx hb dX12_evens_77 (by decide) (fun c_61 => ?_) (fun c_61 => ?_)
          · have c_61 : x_43.toInt = 0 := xI_eq rfl rfl c_61
            exfalso; omega
          · have c_61 : x_43.toInt ≠ 0 := xI_ne rfl rfl c_61
            refine lv_aload_n hx hb dX12_evens_80 rfl (lv_at hl 3 rfl) ?_
            refine lv_iload hx hb dX12_evens_81 (lv_at hl 2 rfl) ?_
            have g_62 : (G_38.1 66 66).toInt = (G_27.1 66 66).toInt := by rw [show G_38.1 66 66 = (G_27.1 66 66) from ((hq_39.i 66 66 (by decide) (by decide)).trans (rfl))]
            have g_63 : (G_38.1 66 66).toInt = (G_27.1 66 66).toInt := by rw [show G_38.1 66 66 = (G_27.1 66 66) from ((hq_39.i 66 66 (by decide) (by decide)).trans (rfl))]
            refine S_callv (va_runV (As := [.int x_31]) (rest := []) ⟨hx, hb, hml, hown, hts⟩ (n_lay l D k A a z G_38 x_31 (by omega)) (cwV 1 hts (gd_V hgd m1866 m1868 m97 m131 m1869) rfl rfl rfl (by decide +kernel) ⟨Nat.le_of_ble_eq_true rfl, Nat.le_of_ble_eq_true rfl⟩) (pre_V hW hB_G_38 hK hZ hS kd_66 rfl) rfl rfl hl.1 rfl (lv_room (Nat.le_of_ble_eq_true rfl)) dX12_evens_83 ⟨Nat.le_of_ble_eq_true rfl, Nat.le_of_ble_eq_true rfl⟩) hS (fun G_65 H locs hpo hW hS => ?_)
            obtain ⟨hB_G_65, hq_66, hp_67⟩ := hpo
            have hF := hF.call hq_66 (by decide) (by decide)
            obtain ⟨y_68, ey_68⟩ : ∃ q, q = x_31 + 1 := ⟨_, rfl⟩
            have ty_68 : y_68.toInt = x_31.toInt + 1 := xI_add rfl rfl ey_68 (by omega) (by omega)
            refine lv_iinc (v := y_68) (lv' := [(4, .int y_68), (6, .int x_42), (5, .int x_43), (0, .ref (a 66))]) hx hb dX12_evens_86 hl (k := 2) rfl (by rw [ey_68]; rfl) (by decide) rfl (fun ls hl => ?_)
            refine lv_goto (tgt := 30) hx hb dX12_evens_89 (by decide) ?_
            have b_69 : 0 ≤ (G_65.1 66 66).toInt ∧ (G_65.1 66 66).toInt ≤ 400 := hB_G_65.i 66 66 rfl rfl
            exact ih_29 (61 - y_68.toInt : Int).toNat (by omega) _ _ _ ⟨G_65, y_68, (Int.toNat_of_nonneg (by omega)), ⟨by omega, by omega⟩, (by omega), hW, hB_G_65, hF, (((Fr.rf.call hq_28 (by decide) (by decide)).call hq_39 (by decide) (by decide)).call hq_66 (by decide) (by decide)), hS, lv_sub hl [0, 3] rfl⟩
        · have c_60 : x_43.toInt = 0 := xI_eq rfl rfl c_60
          refine lv_aload_n hx hb dX12_evens_59 rfl (lv_at hl 3 rfl) ?_
          refine lv_iload hx hb dX12_evens_60 (lv_at hl 0 rfl) ?_
          refine lv_iload hx hb dX12_evens_62 (lv_at hl 2 rfl) ?_
          refine S_calli (va_runV (As := [.int x_42, .int x_31]) (rest := []) ⟨hx, hb, hml, hown, hts⟩ (n_comesToEnd l D k A a z G_38 x_42 x_31 ⟨by omega, by omega⟩ ⟨by omega, by omega⟩) (cwV 2 hts (gd_V hgd m1899 m1901 m100 m131 m1902) rfl rfl rfl (by decide +kernel) ⟨Nat.le_of_ble_eq_true rfl, Nat.le_of_ble_eq_true rfl⟩) (pre_V hW hB_G_38 hK hZ hS kd_66 rfl) rfl rfl hl.1 rfl (lv_room (Nat.le_of_ble_eq_true rfl)) dX12_evens_64 ⟨Nat.le_of_ble_eq_true rfl, Nat.le_of_ble_eq_true rfl⟩) hS (fun r_70 G_71 H locs hpo hW hS => ?_)
          obtain ⟨hB_G_71, hq_72, f_74⟩ := hpo
          have hF := hF.call hq_72 (by decide) (by decide)
          refine lv_istore (lv' := [(5, .int r_70), (6, .int x_42), (4, .int x_31), (0, .ref (a 66))]) hx hb dX12_evens_67 hl (by decide) rfl (fun ls hl => ?_)
          obtain ⟨y_75, ey_75⟩ : ∃ q, q = x_42 + 1 := ⟨_, rfl⟩
          have ty_75 : y_75.toInt = x_42.toInt + 1 := xI_add rfl rfl ey_75 (by omega) (by omega)
          refine lv_iinc (v := y_75) (lv' := [(6, .int y_75), (5, .int r_70), (4, .int x_31), (0, .ref (a 66))]) hx hb dX12_evens_69 hl (k := 1) rfl (by rw [ey_75]; rfl) (by decide) rfl (fun ls hl => ?_)
          refine lv_goto (tgt := 45) hx hb dX12_evens_72 (by decide) ?_
          exact ih_40 (60 - y_75.toInt : Int).toNat (by omega) _ _ _ ⟨G_71, y_75, r_70, (Int.toNat_of_nonneg (by omega)), ⟨by omega, by omega⟩, ⟨by omega, by omega⟩, hW, hB_G_71, hF, ((Fr.rf.call hq_39 (by decide) (by decide)).call hq_72 (by decide) (by decide)), hS, lv_sub hl [0, 1, 2, 3] rfl⟩
  · have c_11 : r_6.toInt = 0 := xI_eq rfl rfl c_11
    refine lv_iconst (v := (-1)) hx hb dX12_evens_15 (by decide) ?_
    exact W.iret (v := (-1)) hx hb hr (fun t ht _ => ⟨⟨(-1), G_7, rfl, ⟨hB_G_7, hF⟩, wd_t ht hW⟩, hS.F ht⟩) hS.2.2 dX12_evens_16

set_option maxHeartbeats 4000000 in
set_option maxRecDepth 100000 in
theorem n_evenest (l : Launch) (D : va_G) (k : KT) (A : Nat → Prop) (a : Nat → Nat) (z : SK) (G : GS) (p0 : Int32) (p1 : Int32) (p2 : Int32) (p3 : Int32) (hP9 : gP G = 1) (hW9 : gW G = 1) : Met l yX12_evenest (WS yX12_evenest cX12_evenest 7 (some .int)) ({ frames := 5, cells := 0, slots := 0, locals := 117 }) (va_Pc [.ref (a 66), .int p0, .int p1, .int p2, .int p3] (cW D k A a z G)) (va_Qi (fun (r : Int32) (G1 : GS) => Bd G1 ∧ Fr [103, 76, 97, 98] [(66, 59), (66, 60), (66, 61), (66, 62), (66, 63)] G G1) (fun (G1 : GS) t => Wd D k A a G1 t.heap) A) 0 0 A := by
  refine Met.ofW (cc := cX12_evenest) (maxL := 7) (ret := (some .int)) (by decide) rfl ?_
  intro p e s m args below meth c s₁ B hml hv
  obtain ⟨rfl, hW, hB_G, hK, hZ⟩ := hv
  have hx := B.exec
  have hb := B.bytes
  have hr := B.returns
  have hts := atoms_spec (ws := WS yX12_evenest cX12_evenest 7 (some .int)) B.pre
  have hgd : ∀ w ∈ gd, w ∈ WS yX12_evenest cX12_evenest 7 (some .int) := fun w h => List.mem_cons_of_mem _ h
  have hg : ∀ w ∈ gd, w.before _ s = true := fun w h => hts w (hgd w h)
  have hown : s.vm.findClass RX12 = some m.cls := findClass_of_methodNamed B.named
  have hS : va_S A s.heap s.heap [] := va_S.rf
  have hF : Fr [103, 76, 97, 98] [(66, 59), (66, 60), (66, 61), (66, 62), (66, 63)] G G := Fr.rf
  have hl := lv_entry ([.ref (a 66), .int p0, .int p1, .int p2, .int p3]) (n := 7) (Nat.le_of_ble_eq_true rfl)
  rw [lg_entry_eq]
  generalize (lg_sl ([.ref (a 66), .int p0, .int p1, .int p2, .int p3]) ++ List.replicate (7 - (lg_sl ([.ref (a 66), .int p0, .int p1, .int p2, .int p3])).length) Slot.unset).toArray = ls at hl ⊢
  have hl : lv_has ls 7 [(0, .ref (a 66)), (1, .int p0), (2, .int p1), (3, .int p2), (4, .int p3)] := hl
  refine lv_aload_n hx hb dX12_evenest_0 rfl (lv_at hl 0 rfl) ?_
  refine lv_iload_n hx hb dX12_evenest_1 rfl (lv_at hl 1 rfl) ?_
  refine lv_iload_n hx hb dX12_evenest_2 rfl (lv_at hl 2 rfl) ?_
  refine lv_iload_n hx hb dX12_evenest_3 rfl (lv_at hl 3 rfl) ?_
  refine S_calli (va_runV (As := [.int p0, .int p1, .int p2]) (rest := []) ⟨hx, hb, hml, hown, hts⟩ (n_isAsked l D k A a z G p0 p1 p2 ) (cwV 3 hts (gd_V hgd m1826 m1828 m89 m131 m1829) rfl rfl rfl (by decide +kernel) ⟨Nat.le_of_ble_eq_true rfl, Nat.le_of_ble_eq_true rfl⟩) (pre_V hW hB_G hK hZ hS kd_66 rfl) rfl rfl hl.1 rfl (lv_room (Nat.le_of_ble_eq_true rfl)) dX12_evenest_4 ⟨Nat.le_of_ble_eq_true rfl, Nat.le_of_ble_eq_true rfl⟩) hS (fun r_1 G_2 H locs hpo hW hS => ?_)
  obtain ⟨hB_G_2, hq_3, f_5, hp_4⟩ := hpo
  have hF := hF.call hq_3 (by decide) (by decide)
  refine lv_if_eq (tgt := 20) hx hb dX12_evenest_7 (by decide) (fun c_6 => ?_) (fun c_6 => ?_)
  · have c_6 : r_1.toInt = 0 := xI_eq rfl rfl c_6
    refine lv_iconst (v := (-1)) hx hb dX12_evenest_20 (by decide) ?_
    exact W.iret (v := (-1)) hx hb hr (fun t ht _ => ⟨⟨(-1), G_2, rfl, ⟨hB_G_2, hF⟩, wd_t ht hW⟩, hS.F ht⟩) hS.2.2 dX12_evenest_21
  · have c_6 : r_1.toInt ≠ 0 := xI_ne rfl rfl c_6
    refine lv_iload hx hb dX12_evenest_10 (lv_at hl 4 rfl) ?_
    refine lv_iconst (v := 0) hx hb dX12_evenest_12 (by decide) ?_
    refine lv_iconst (v := 1) hx hb dX12_evenest_13 (by decide) ?_
    have qc_7 : (0 : Int32).toInt = 0 := rfl
    have qc_8 : (1 : Int32).toInt = 1 := rfl
    refine S_calli (va_runS (As := [.int p3, .int 0, .int 1]) (rest := []) ⟨hx, hb, hml, hown, hts⟩ (n_isIn l D k A a z G_2 p3 0 1 ) (va_cwS 3 hts (gd_S hgd m1781 m1782 m131 m1783) rfl rfl rfl (by decide +kernel) ⟨Nat.le_of_ble_eq_true rfl, Nat.le_of_ble_eq_true rfl⟩) (pre_S hW hB_G_2 hK hZ hS) rfl rfl hl.1 rfl (lv_room (Nat.le_of_ble_eq_true rfl)) dX12_evenest_14 ⟨Nat.le_of_ble_eq_true rfl, Nat.le_of_ble_eq_true rfl⟩) hS (fun r_9 G_10 H locs hpo hW hS => ?_)
    obtain ⟨hB_G_10, hq_11, f_13, hp_12⟩ := hpo
    have hF := hF.call hq_11 (by decide) (by decide)
    refine lv_if_ne (tgt := 22) hx hb dX12_evenest_17 (by decide) (fun c_14 => ?_) (fun c_14 => ?_)
    · have c_14 : r_9.toInt ≠ 0 := xI_ne rfl rfl c_14
      refine lv_aload_n hx hb dX12_evenest_22 rfl (lv_at hl 0 rfl) ?_
      refine lv_iload_n hx hb dX12_evenest_23 rfl (lv_at hl 1 rfl) ?_
      refine lv_iload_n hx hb dX12_evenest_24 rfl (lv_at hl 2 rfl) ?_
      refine lv_iload_n hx hb dX12_evenest_25 rfl (lv_at hl 3 rfl) ?_
      have g_15 : gP G_10 = gP G := gP_fr (rs := []) (fs := []) ((Fr.rf.call hq_3 (by decide) (by decide)).call hq_11 (by decide) (by decide)) (by decide) (by decide)
      refine S_callv (va_runV (As := [.int p0, .int p1, .int p2]) (rest := []) ⟨hx, hb, hml, hown, hts⟩ (n_layStreet l D k A a z G_10 p0 p1 p2 ⟨by omega, by omega⟩ ⟨by omega, by omega⟩ (by omega)) (cwV 3 hts (gd_V hgd m1834 m1836 m91 m131 m1837) rfl rfl rfl (by decide +kernel) ⟨Nat.le_of_ble_eq_true rfl, Nat.le_of_ble_eq_true rfl⟩) (pre_V hW hB_G_10 hK hZ hS kd_66 rfl) rfl rfl hl.1 rfl (lv_room (Nat.le_of_ble_eq_true rfl)) dX12_evenest_26 ⟨Nat.le_of_ble_eq_true rfl, Nat.le_of_ble_eq_true rfl⟩) hS (fun G_17 H locs hpo hW hS => ?_)
      obtain ⟨hB_G_17, hq_18, hp_19⟩ := hpo
      have hF := hF.call hq_18 (by decide) (by decide)
      have b_20 : 0 ≤ (G.1 66 53).toInt ∧ (G.1 66 53).toInt ≤ 4 := hB_G.i 66 53 rfl rfl
      have u_21 := gW_at hW9 p0 (by omega) (by omega)
      have u_22 : (G_10.1 92 p0.toNatClampNeg).toInt = (G.1 92 p0.toNatClampNeg).toInt := congrArg Int32.toInt (((hq_11.ri 92 (by decide) (by decide) p0.toNatClampNeg).trans (hq_3.ri 92 (by decide) (by decide) p0.toNatClampNeg)))
      have u_23 : (G_10.1 93 p0.toNatClampNeg).toInt = (G.1 93 p0.toNatClampNeg).toInt := congrArg Int32.toInt (((hq_11.ri 93 (by decide) (by decide) p0.toNatClampNeg).trans (hq_3.ri 93 (by decide) (by decide) p0.toNatClampNeg)))
      have u_24 : (G_10.1 94 p0.toNatClampNeg).toInt = (G.1 94 p0.toNatClampNeg).toInt := congrArg Int32.toInt (((hq_11.ri 94 (by decide) (by decide) p0.toNatClampNeg).trans (hq_3.ri 94 (by decide) (by decide) p0.toNatClampNeg)))
      have u_25 : (G_10.1 95 p0.toNatClampNeg).toInt = (G.1 95 p0.toNatClampNeg).toInt := congrArg Int32.toInt (((hq_11.ri 95 (by decide) (by decide) p0.toNatClampNeg).trans (hq_3.ri 95 (by decide) (by decide) p0.toNatClampNeg)))
      have b_26 : 0 ≤ (G_17.1 66 60).toInt ∧ (G_17.1 66 60).toInt ≤ 12 := hB_G_17.i 66 60 rfl rfl
      have b_27 : 0 ≤ (G_17.1 66 61).toInt ∧ (G_17.1 66 61).toInt ≤ 60 := hB_G_17.i 66 61 rfl rfl
      have b_28 : 0 ≤ (G_17.1 66 62).toInt ∧ (G_17.1 66 62).toInt ≤ 60 := hB_G_17.i 66 62 rfl rfl
      have b_29 : 0 ≤ (G_17.1 66 63).toInt ∧ (G_17.1 66 63).toInt ≤ 99 := hB_G_17.i 66 63 rfl rfl
      refine lv_iconst (v := 0) hx hb dX12_evenest_29 (by decide) ?_
      refine lv_istore (lv' := [(5, .int 0), (0, .ref (a 66)), (1, .int p0), (2, .int p1), (3, .int p2), (4, .int p3)]) hx hb dX12_evenest_30 hl (by decide) rfl (fun ls hl => ?_)
      have qc_35 : (0 : Int32).toInt = 0 := rfl
      refine loop_N (Inv := fun n H locs ls => ∃ (G_30 : GS) (x_34 : Int32), (n : Int) = 60 - x_34.toInt ∧ (0 ≤ x_34.toInt ∧ x_34.toInt ≤ 60) ∧ Wd D k A a G_30 H ∧ Bd G_30 ∧ Fr [103, 76, 97, 98] [(66, 59), (66, 60), (66, 61), (66, 62), (66, 63)] G G_30 ∧ Fr [103] [] G_17 G_30 ∧ va_S A s.heap H locs ∧ lv_has ls 7 [(5, .int x_34), (0, .ref (a 66)), (4, .int p3)]) (fun n_33 H locs ls ih_32 hI => ?_) (60 - 0 : Int).toNat ⟨G_17, 0, (Int.toNat_of_nonneg (by omega)), ⟨by omega, by omega⟩, hW, hB_G_17, hF, Fr.rf, hS, lv_sub hl [0, 1, 5] rfl⟩
      obtain ⟨G_30, x_34, hn_37, f_36, hW, hB_G_30, hF, hq_31, hS, hl⟩ := hI
      refine lv_iload hx hb dX12_evenest_32 (lv_at hl 0 rfl) ?_
      refine lv_aload_n hx hb dX12_evenest_34 rfl (lv_at hl 1 rfl) ?_
      refine S_getI (v := (G_17.1 66 62)) (C := RX12) (T := TX12) (N := 89) hx hb hg iX12 hown hK hW kd_66 rfl 62 (by decide) (hg (Cond.fieldLink RX12 478 "SlabWalkModel" "most" "I") m1376) (fun _ h9 => h9) rfl ((hq_31.i 66 62 (by decide) (by decide)).trans (rfl)) dX12_evenest_35 ?_
      refine lv_aload_n hx hb dX12_evenest_38 rfl (lv_at hl 1 rfl) ?_
      refine S_getI (v := (G_17.1 66 61)) (C := RX12) (T := TX12) (N := 89) hx hb hg iX12 hown hK hW kd_66 rfl 61 (by decide) (hg (Cond.fieldLink RX12 475 "SlabWalkModel" "least" "I") m1375) (fun _ h9 => h9) rfl ((hq_31.i 66 61 (by decide) (by decide)).trans (rfl)) dX12_evenest_39 ?_
      refine lv_isub hx hb dX12_evenest_42 ?_
      refine lv_topi (fun y_38 ey_38 => ?_)
      have ty_38 : y_38.toInt = (G_17.1 66 62).toInt - (G_17.1 66 61).toInt := xI_sub rfl rfl ey_38 (by omega) (by omega)
      refine lv_icmp_gt (tgt := 103) hx hb dX12_evenest_43 (by decide) (fun c_39 => ?_) (fun c_39 => ?_)
      · have c_39 : y_38.toInt < x_34.toInt := xI_lt rfl rfl c_39
        refine lv_iconst (v := (-1)) hx hb dX12_evenest_103 (by decide) ?_
        exact W.iret (v := (-1)) hx hb hr (fun t ht _ => ⟨⟨(-1), G_30, rfl, ⟨hB_G_30, hF⟩, wd_t ht hW⟩, hS.F ht⟩) hS.2.2 dX12_evenest_104
      · have c_39 : x_34.toInt ≤ y_38.toInt := xI_nlt rfl rfl c_39
        refine lv_aload_n hx hb dX12_evenest_46 rfl (lv_at hl 1 rfl) ?_
        refine S_getI (v := (G_17.1 66 61)) (C := RX12) (T := TX12) (N := 89) hx hb hg iX12 hown hK hW kd_66 rfl 61 (by decide) (hg (Cond.fieldLink RX12 475 "SlabWalkModel" "least" "I") m1375) (fun _ h9 => h9) rfl ((hq_31.i 66 61 (by decide) (by decide)).trans (rfl)) dX12_evenest_47 ?_
        refine lv_istore (lv' := [(6, .int (G_17.1 66 61)), (5, .int x_34), (0, .ref (a 66)), (4, .int p3)]) hx hb dX12_evenest_50 hl (by decide) rfl (fun ls hl => ?_)
        refine loop_N (Inv := fun n H locs ls => ∃ (G_40 : GS) (x_44 : Int32), (n : Int) = 61 - x_44.toInt ∧ (0 ≤ x_44.toInt ∧ x_44.toInt ≤ 61) ∧ Wd D k A a G_40 H ∧ Bd G_40 ∧ Fr [103, 76, 97, 98] [(66, 59), (66, 60), (66, 61), (66, 62), (66, 63)] G G_40 ∧ Fr [103] [] G_30 G_40 ∧ va_S A s.heap H locs ∧ lv_has ls 7 [(6, .int x_44), (5, .int x_34), (0, .ref (a 66)), (4, .int p3)]) (fun n_43 H locs ls ih_42 hI => ?_) (61 - (G_17.1 66 61).toInt : Int).toNat ⟨G_30, (G_17.1 66 61), (Int.toNat_of_nonneg (by omega)), ⟨by omega, by omega⟩, hW, hB_G_30, hF, Fr.rf, hS, lv_sub hl [0, 1, 2, 3] rfl⟩
        obtain ⟨G_40, x_44, hn_46, f_45, hW, hB_G_40, hF, hq_41, hS, hl⟩ := hI
        refine lv_iload hx hb dX12_evenest_52 (lv_at hl 0 rfl) ?_
        refine lv_iload hx hb dX12_evenest_54 (lv_at hl 1 rfl) ?_
        refine lv_iadd hx hb dX12_evenest_56 ?_
        refine lv_topi (fun y_47 ey_47 => ?_)
        have ty_47 : y_47.toInt = x_44.toInt + x_34.toInt := xI_add rfl rfl ey_47 (by omega) (by omega)
        refine lv_aload_n hx hb dX12_evenest_57 rfl (lv_at hl 2 rfl) ?_
        refine S_getI (v := (G_17.1 66 62)) (C := RX12) (T := TX12) (N := 89) hx hb hg iX12 hown hK hW kd_66 rfl 62 (by decide) (hg (Cond.fieldLink RX12 478 "SlabWalkModel" "most" "I") m1376) (fun _ h9 => h9) rfl ((hq_41.i 66 62 (by decide) (by decide)).trans ((hq_31.i 66 62 (by decide) (by decide)).trans (rfl))) dX12_evenest_58 ?_
        refine lv_icmp_gt (tgt := 97) hx hb dX12_evenest_61 (by decide) (fun c_48 => ?_) (fun c_48 => ?_)
        · have c_48 : (G_17.1 66 62).toInt < y_47.toInt := xI_lt rfl rfl c_48
          obtain ⟨y_49, ey_49⟩ : ∃ q, q = x_34 + 1 := ⟨_, rfl⟩
          have ty_49 : y_49.toInt = x_34.toInt + 1 := xI_add rfl rfl ey_49 (by omega) (by omega)
          refine lv_iinc (v := y_49) (lv' := [(5, .int y_49), (6, .int x_44), (0, .ref (a 66)), (4, .int p3)]) hx hb dX12_evenest_97 hl (k := 1) rfl (by rw [ey_49]; rfl) (by decide) rfl (fun ls hl => ?_)
          refine lv_goto (tgt := 32) hx hb dX12_evenest_100 (by decide) ?_
          exact ih_32 (60 - y_49.toInt : Int).toNat (by omega) _ _ _ ⟨G_40, y_49, (Int.toNat_of_nonneg (by omega)), ⟨by omega, by omega⟩, hW, hB_G_40, hF, ((Fr.rf.call hq_31 (by decide) (by decide)).call hq_41 (by decide) (by decide)), hS, lv_sub hl [0, 2, 3] rfl⟩
        · have c_48 : y_47.toInt ≤ (G_17.1 66 62).toInt := xI_nlt rfl rfl c_48
          refine lv_aload_n hx hb dX12_evenest_64 rfl (lv_at hl 2 rfl) ?_
          refine lv_iload hx hb dX12_evenest_65 (lv_at hl 0 rfl) ?_
          refine lv_iload hx hb dX12_evenest_67 (lv_at hl 0 rfl) ?_
          refine lv_iload hx hb dX12_evenest_69 (lv_at hl 1 rfl) ?_
          refine lv_iadd hx hb dX12_evenest_71 ?_
          refine lv_topi (fun y_50 ey_50 => ?_)
          have ty_50 : y_50.toInt = x_44.toInt + x_34.toInt := xI_add rfl rfl ey_50 (by omega) (by omega)
          refine S_calli (va_runV (As := [.int x_44, .int y_50]) (rest := []) ⟨hx, hb, hml, hown, hts⟩ (n_isEven l D k A a z G_40 x_44 y_50 ⟨by omega, by omega⟩ ⟨by omega, by omega⟩) (cwV 2 hts (gd_V hgd m1887 m1889 m99 m131 m1890) rfl rfl rfl (by decide +kernel) ⟨Nat.le_of_ble_eq_true rfl, Nat.le_of_ble_eq_true rfl⟩) (pre_V hW hB_G_40 hK hZ hS kd_66 rfl) rfl rfl hl.1 rfl (lv_room (Nat.le_of_ble_eq_true rfl)) dX12_evenest_72 ⟨Nat.le_of_ble_eq_true rfl, Nat.le_of_ble_eq_true rfl⟩) hS (fun r_51 G_52 H locs hpo hW hS => ?_)
          obtain ⟨hB_G_52, hq_53, f_55⟩ := hpo
          have hF := hF.call hq_53 (by decide) (by decide)
          refine lv_if_eq (tgt := 91) hx hb dX12_evenest_75 (by decide) (fun c_56 => ?_) (fun c_56 => ?_)
          · have c_56 : r_51.toInt = 0 := xI_eq rfl rfl c_56
            obtain ⟨y_57, ey_57⟩ : ∃ q, q = x_44 + 1 := ⟨_, rfl⟩
            have ty_57 : y_57.toInt = x_44.toInt + 1 := xI_add rfl rfl ey_57 (by omega) (by omega)
            refine lv_iinc (v := y_57) (lv' := [(6, .int y_57), (5, .int x_34), (0, .ref (a 66)), (4, .int p3)]) hx hb dX12_evenest_91 hl (k := 0) rfl (by rw [ey_57]; rfl) (by decide) rfl (fun ls hl => ?_)
            refine lv_goto (tgt := 52) hx hb dX12_evenest_94 (by decide) ?_
            exact ih_42 (61 - y_57.toInt : Int).toNat (by omega) _ _ _ ⟨G_52, y_57, (Int.toNat_of_nonneg (by omega)), ⟨by omega, by omega⟩, hW, hB_G_52, hF, ((Fr.rf.call hq_41 (by decide) (by decide)).call hq_53 (by decide) (by decide)), hS, lv_sub hl [0, 1, 2, 3] rfl⟩
          · have c_56 : r_51.toInt ≠ 0 := xI_ne rfl rfl c_56
            refine lv_iload hx hb dX12_evenest_78 (lv_at hl 3 rfl) ?_
            refine lv_if_ne (tgt := 88) hx hb dX12_evenest_80 (by decide) (fun c_58 => ?_) (fun c_58 => ?_)
            · have c_58 : p3.toInt ≠ 0 := xI_ne rfl rfl c_58
              refine lv_iload hx hb dX12_evenest_88 (lv_at hl 0 rfl) ?_
              exact W.iret (v := x_44) hx hb hr (fun t ht _ => ⟨⟨x_44, G_52, rfl, ⟨hB_G_52, hF⟩, wd_t ht hW⟩, hS.F ht⟩) hS.2.2 dX12_evenest_90
            · have c_58 : p3.toInt = 0 := xI_eq rfl rfl c_58
              refine lv_iload hx hb dX12_evenest_83 (lv_at hl 1 rfl) ?_
              refine lv_goto (tgt := 90) hx hb dX12_evenest_85 (by decide) ?_
              exact W.iret (v := x_34) hx hb hr (fun t ht _ => ⟨⟨x_34, G_52, rfl, ⟨hB_G_52, hF⟩, wd_t ht hW⟩, hS.F ht⟩) hS.2.2 dX12_evenest_90
    · have c_14 : r_9.toInt = 0 := xI_eq rfl rfl c_14
      refine lv_iconst (v := (-1)) hx hb dX12_evenest_20 (by decide) ?_
      exact W.iret (v := (-1)) hx hb hr (fun t ht _ => ⟨⟨(-1), G_10, rfl, ⟨hB_G_10, hF⟩, wd_t ht hW⟩, hS.F ht⟩) hS.2.2 dX12_evenest_21

set_option maxHeartbeats 4000000 in
set_option maxRecDepth 100000 in
theorem n_ways (l : Launch) (D : va_G) (k : KT) (A : Nat → Prop) (a : Nat → Nat) (z : SK) (G : GS) (p0 : Int32) (p1 : Int32) (p2 : Int32) (p3 : Int32) (hP9 : gP G = 1) : Met l yX12_ways (WS yX12_ways cX12_ways 8 (some .long)) ({ frames := 5, cells := 0, slots := 0, locals := 117 }) (va_Pc [.ref (a 66), .int p0, .int p1, .int p2, .int p3] (cW D k A a z G)) (va_Ql (fun (r : Int64) (G1 : GS) => Bd G1 ∧ Fr [101, 102, 76, 97, 98] [(66, 59), (66, 60), (66, 61), (66, 62), (66, 63)] G G1) (fun (G1 : GS) t => Wd D k A a G1 t.heap) A) 0 0 A := by
  refine Met.ofW (cc := cX12_ways) (maxL := 8) (ret := (some .long)) (by decide) rfl ?_
  intro p e s m args below meth c s₁ B hml hv
  obtain ⟨rfl, hW, hB_G, hK, hZ⟩ := hv
  have hx := B.exec
  have hb := B.bytes
  have hr := B.returns
  have hts := atoms_spec (ws := WS yX12_ways cX12_ways 8 (some .long)) B.pre
  have hgd : ∀ w ∈ gd, w ∈ WS yX12_ways cX12_ways 8 (some .long) := fun w h => List.mem_cons_of_mem _ h
  have hg : ∀ w ∈ gd, w.before _ s = true := fun w h => hts w (hgd w h)
  have hown : s.vm.findClass RX12 = some m.cls := findClass_of_methodNamed B.named
  have hS : va_S A s.heap s.heap [] := va_S.rf
  have hF : Fr [101, 102, 76, 97, 98] [(66, 59), (66, 60), (66, 61), (66, 62), (66, 63)] G G := Fr.rf
  have hl := lv_entry ([.ref (a 66), .int p0, .int p1, .int p2, .int p3]) (n := 8) (Nat.le_of_ble_eq_true rfl)
  rw [lg_entry_eq]
  generalize (lg_sl ([.ref (a 66), .int p0, .int p1, .int p2, .int p3]) ++ List.replicate (8 - (lg_sl ([.ref (a 66), .int p0, .int p1, .int p2, .int p3])).length) Slot.unset).toArray = ls at hl ⊢
  have hl : lv_has ls 8 [(0, .ref (a 66)), (1, .int p0), (2, .int p1), (3, .int p2), (4, .int p3)] := hl
  refine lv_aload_n hx hb dX12_ways_0 rfl (lv_at hl 0 rfl) ?_
  refine lv_iload_n hx hb dX12_ways_1 rfl (lv_at hl 1 rfl) ?_
  refine lv_iload_n hx hb dX12_ways_2 rfl (lv_at hl 2 rfl) ?_
  refine lv_iload_n hx hb dX12_ways_3 rfl (lv_at hl 3 rfl) ?_
  refine S_calli (va_runV (As := [.int p0, .int p1, .int p2]) (rest := []) ⟨hx, hb, hml, hown, hts⟩ (n_isAsked l D k A a z G p0 p1 p2 ) (cwV 3 hts (gd_V hgd m1826 m1828 m89 m131 m1829) rfl rfl rfl (by decide +kernel) ⟨Nat.le_of_ble_eq_true rfl, Nat.le_of_ble_eq_true rfl⟩) (pre_V hW hB_G hK hZ hS kd_66 rfl) rfl rfl hl.1 rfl (lv_room (Nat.le_of_ble_eq_true rfl)) dX12_ways_4 ⟨Nat.le_of_ble_eq_true rfl, Nat.le_of_ble_eq_true rfl⟩) hS (fun r_1 G_2 H locs hpo hW hS => ?_)
  obtain ⟨hB_G_2, hq_3, f_5, hp_4⟩ := hpo
  have hF := hF.call hq_3 (by decide) (by decide)
  refine lv_if_eq (tgt := 21) hx hb dX12_ways_7 (by decide) (fun c_6 => ?_) (fun c_6 => ?_)
  · have c_6 : r_1.toInt = 0 := xI_eq rfl rfl c_6
    refine lv_ldc2 (v := (-1)) hx hb hown (hg (Cond.constantLong RX12 517 (-1)) m1874) dX12_ways_21 ?_
    exact W.lret (v := (-1)) hx hb hr (fun t ht _ => ⟨⟨(-1), G_2, rfl, ⟨hB_G_2, hF⟩, wd_t ht hW⟩, hS.F ht⟩) hS.2.2 dX12_ways_24
  · have c_6 : r_1.toInt ≠ 0 := xI_ne rfl rfl c_6
    refine lv_iload hx hb dX12_ways_10 (lv_at hl 4 rfl) ?_
    refine lv_iconst (v := 1) hx hb dX12_ways_12 (by decide) ?_
    refine lv_bipush (v := 60) hx hb dX12_ways_13 (by decide) ?_
    have qc_7 : (1 : Int32).toInt = 1 := rfl
    have qc_8 : (60 : Int32).toInt = 60 := rfl
    refine S_calli (va_runS (As := [.int p3, .int 1, .int 60]) (rest := []) ⟨hx, hb, hml, hown, hts⟩ (n_isIn l D k A a z G_2 p3 1 60 ) (va_cwS 3 hts (gd_S hgd m1781 m1782 m131 m1783) rfl rfl rfl (by decide +kernel) ⟨Nat.le_of_ble_eq_true rfl, Nat.le_of_ble_eq_true rfl⟩) (pre_S hW hB_G_2 hK hZ hS) rfl rfl hl.1 rfl (lv_room (Nat.le_of_ble_eq_true rfl)) dX12_ways_15 ⟨Nat.le_of_ble_eq_true rfl, Nat.le_of_ble_eq_true rfl⟩) hS (fun r_9 G_10 H locs hpo hW hS => ?_)
    obtain ⟨hB_G_10, hq_11, f_13, hp_12⟩ := hpo
    have hF := hF.call hq_11 (by decide) (by decide)
    refine lv_if_ne (tgt := 25) hx hb dX12_ways_18 (by decide) (fun c_14 => ?_) (fun c_14 => ?_)
    · have c_14 : r_9.toInt ≠ 0 := xI_ne rfl rfl c_14
      refine lv_aload_n hx hb dX12_ways_25 rfl (lv_at hl 0 rfl) ?_
      refine lv_iload_n hx hb dX12_ways_26 rfl (lv_at hl 1 rfl) ?_
      refine lv_iload_n hx hb dX12_ways_27 rfl (lv_at hl 2 rfl) ?_
      refine lv_iload_n hx hb dX12_ways_28 rfl (lv_at hl 3 rfl) ?_
      have g_15 : gP G_10 = gP G := gP_fr (rs := []) (fs := []) ((Fr.rf.call hq_3 (by decide) (by decide)).call hq_11 (by decide) (by decide)) (by decide) (by decide)
      refine S_callv (va_runV (As := [.int p0, .int p1, .int p2]) (rest := []) ⟨hx, hb, hml, hown, hts⟩ (n_layStreet l D k A a z G_10 p0 p1 p2 ⟨by omega, by omega⟩ ⟨by omega, by omega⟩ (by omega)) (cwV 3 hts (gd_V hgd m1834 m1836 m91 m131 m1837) rfl rfl rfl (by decide +kernel) ⟨Nat.le_of_ble_eq_true rfl, Nat.le_of_ble_eq_true rfl⟩) (pre_V hW hB_G_10 hK hZ hS kd_66 rfl) rfl rfl hl.1 rfl (lv_room (Nat.le_of_ble_eq_true rfl)) dX12_ways_29 ⟨Nat.le_of_ble_eq_true rfl, Nat.le_of_ble_eq_true rfl⟩) hS (fun G_17 H locs hpo hW hS => ?_)
      obtain ⟨hB_G_17, hq_18, hp_19⟩ := hpo
      have hF := hF.call hq_18 (by decide) (by decide)
      refine lv_iconst (v := 0) hx hb dX12_ways_32 (by decide) ?_
      refine lv_istore (lv' := [(5, .int 0), (0, .ref (a 66)), (1, .int p0), (2, .int p1), (3, .int p2), (4, .int p3)]) hx hb dX12_ways_33 hl (by decide) rfl (fun ls hl => ?_)
      have qc_25 : (0 : Int32).toInt = 0 := rfl
      refine loop_N (Inv := fun n H locs ls => ∃ (G_20 : GS) (x_24 : Int32), (n : Int) = 1024 - x_24.toInt ∧ (0 ≤ x_24.toInt ∧ x_24.toInt ≤ 1024) ∧ Wd D k A a G_20 H ∧ Bd G_20 ∧ Fr [101, 102, 76, 97, 98] [(66, 59), (66, 60), (66, 61), (66, 62), (66, 63)] G G_20 ∧ Fr [101] [] G_17 G_20 ∧ va_S A s.heap H locs ∧ lv_has ls 8 [(5, .int x_24), (0, .ref (a 66)), (4, .int p3)]) (fun n_23 H locs ls ih_22 hI => ?_) (1024 - 0 : Int).toNat ⟨G_17, 0, (Int.toNat_of_nonneg (by omega)), ⟨by omega, by omega⟩, hW, hB_G_17, hF, Fr.rf, hS, lv_sub hl [0, 1, 5] rfl⟩
      obtain ⟨G_20, x_24, hn_27, f_26, hW, hB_G_20, hF, hq_21, hS, hl⟩ := hI
      refine lv_iload hx hb dX12_ways_35 (lv_at hl 0 rfl) ?_
      refine lv_sipush (v := 1024) hx hb dX12_ways_37 (by decide) ?_
      refine lv_icmp_ge (tgt := 101) hx hb dX12_ways_40 (by decide) (fun c_28 => ?_) (fun c_28 => ?_)
      · have c_28 : 1024 ≤ x_24.toInt := xI_le rfl rfl c_28
        refine lv_iconst (v := 1) hx hb dX12_ways_101 (by decide) ?_
        refine lv_istore (lv' := [(5, .int 1), (0, .ref (a 66)), (4, .int p3)]) hx hb dX12_ways_102 hl (by decide) rfl (fun ls hl => ?_)
        have qc_34 : (1 : Int32).toInt = 1 := rfl
        refine loop_N (Inv := fun n H locs ls => ∃ (G_29 : GS) (x_33 : Int32), (n : Int) = 60 - x_33.toInt ∧ (1 ≤ x_33.toInt ∧ x_33.toInt ≤ 60) ∧ Wd D k A a G_29 H ∧ Bd G_29 ∧ Fr [101, 102, 76, 97, 98] [(66, 59), (66, 60), (66, 61), (66, 62), (66, 63)] G G_29 ∧ Fr [101, 102] [] G_20 G_29 ∧ va_S A s.heap H locs ∧ lv_has ls 8 [(5, .int x_33), (0, .ref (a 66)), (4, .int p3)]) (fun n_32 H locs ls ih_31 hI => ?_) (60 - 1 : Int).toNat ⟨G_20, 1, (Int.toNat_of_nonneg (by omega)), ⟨by omega, by omega⟩, hW, hB_G_20, hF, Fr.rf, hS, lv_sub hl [0, 1, 2] rfl⟩
        obtain ⟨G_29, x_33, hn_36, f_35, hW, hB_G_29, hF, hq_30, hS, hl⟩ := hI
        refine lv_iload hx hb dX12_ways_104 (lv_at hl 0 rfl) ?_
        refine lv_iload hx hb dX12_ways_106 (lv_at hl 2 rfl) ?_
        refine lv_icmp_ge (tgt := 219) hx hb dX12_ways_108 (by decide) (fun c_37 => ?_) (fun c_37 => ?_)
        · have c_37 : p3.toInt ≤ x_33.toInt := xI_le rfl rfl c_37
          refine lv_lconst (v := 0) hx hb dX12_ways_219 (by decide) ?_
          refine lv_lstore (lv' := [(5, .long 0), (0, .ref (a 66)), (4, .int p3)]) hx hb dX12_ways_220 hl (by decide) rfl (fun ls hl => ?_)
          refine lv_iconst (v := 0) hx hb dX12_ways_222 (by decide) ?_
          refine lv_istore (lv' := [(7, .int 0), (5, .long 0), (0, .ref (a 66)), (4, .int p3)]) hx hb dX12_ways_223 hl (by decide) rfl (fun ls hl => ?_)
          have qc_44 : (0 : Int32).toInt = 0 := rfl
          refine loop_N (Inv := fun n H locs ls => ∃ (G_38 : GS) (x_42 : Int32) (x_43 : Int64), (n : Int) = 800 - x_42.toInt ∧ (0 ≤ x_42.toInt ∧ x_42.toInt ≤ 800) ∧ Wd D k A a G_38 H ∧ Bd G_38 ∧ Fr [101, 102, 76, 97, 98] [(66, 59), (66, 60), (66, 61), (66, 62), (66, 63)] G G_38 ∧ Fr [] [] G_29 G_38 ∧ va_S A s.heap H locs ∧ lv_has ls 8 [(7, .int x_42), (5, .long x_43), (0, .ref (a 66))]) (fun n_41 H locs ls ih_40 hI => ?_) (800 - 0 : Int).toNat ⟨G_29, 0, 0, (Int.toNat_of_nonneg (by omega)), ⟨by omega, by omega⟩, hW, hB_G_29, hF, Fr.rf, hS, lv_sub hl [0, 1, 2] rfl⟩
          obtain ⟨G_38, x_42, x_43, hn_46, f_45, hW, hB_G_38, hF, hq_39, hS, hl⟩ := hI
          refine lv_iload hx hb dX12_ways_225 (lv_at hl 0 rfl) ?_
          refine lv_sipush (v := 800) hx hb dX12_ways_227 (by decide) ?_
          refine lv_icmp_ge (tgt := 265) hx hb dX12_ways_230 (by decide) (fun c_47 => ?_) (fun c_47 => ?_)
          · have c_47 : 800 ≤ x_42.toInt := xI_le rfl rfl c_47
            refine lv_lload hx hb dX12_ways_265 (lv_at hl 1 rfl) ?_
            exact W.lret (v := x_43) hx hb hr (fun t ht _ => ⟨⟨x_43, G_38, rfl, ⟨hB_G_38, hF⟩, wd_t ht hW⟩, hS.F ht⟩) hS.2.2 dX12_ways_267
          · have c_47 : x_42.toInt < 800 := xI_nle rfl rfl c_47
            refine lv_aload_n hx hb dX12_ways_233 rfl (lv_at hl 2 rfl) ?_
            refine lv_iload hx hb dX12_ways_234 (lv_at hl 0 rfl) ?_
            refine lv_iconst (v := 2) hx hb dX12_ways_236 (by decide) ?_
            refine lv_idiv hx hb dX12_ways_237 (by decide) ?_
            refine lv_topi (fun y_48 ey_48 => ?_)
            have ty_48 : y_48.toInt = x_42.toInt / 2 := xI_div rfl ey_48 (by decide) (by omega)
            have b_49 : 0 ≤ (G_17.1 66 59).toInt ∧ (G_17.1 66 59).toInt ≤ 400 := hB_G_17.i 66 59 rfl rfl
            have g_50 : (G_38.1 66 59).toInt = (G_17.1 66 59).toInt := by rw [show G_38.1 66 59 = (G_17.1 66 59) from ((hq_39.i 66 59 (by decide) (by decide)).trans ((hq_30.i 66 59 (by decide) (by decide)).trans (hq_21.i 66 59 (by decide) (by decide))))]
            have b_51 : 0 ≤ (G_17.1 66 60).toInt ∧ (G_17.1 66 60).toInt ≤ 12 := hB_G_17.i 66 60 rfl rfl
            have g_52 : (G_38.1 66 60).toInt = (G_17.1 66 60).toInt := by rw [show G_38.1 66 60 = (G_17.1 66 60) from ((hq_39.i 66 60 (by decide) (by decide)).trans ((hq_30.i 66 60 (by decide) (by decide)).trans (hq_21.i 66 60 (by decide) (by decide))))]
            have b_53 : 0 ≤ (G_17.1 66 62).toInt ∧ (G_17.1 66 62).toInt ≤ 60 := hB_G_17.i 66 62 rfl rfl
            have g_54 : (G_38.1 66 62).toInt = (G_17.1 66 62).toInt := by rw [show G_38.1 66 62 = (G_17.1 66 62) from ((hq_39.i 66 62 (by decide) (by decide)).trans ((hq_30.i 66 62 (by decide) (by decide)).trans (hq_21.i 66 62 (by decide) (by decide))))]
            refine S_calli (va_runV (As := [.int y_48]) (rest := []) ⟨hx, hb, hml, hown, hts⟩ (n_isEnd l D k A a z G_38 y_48 ⟨by omega, by omega⟩) (cwV 1 hts (gd_V hgd m1854 m1856 m95 m131 m1857) rfl rfl rfl (by decide +kernel) ⟨Nat.le_of_ble_eq_true rfl, Nat.le_of_ble_eq_true rfl⟩) (pre_V hW hB_G_38 hK hZ hS kd_66 rfl) rfl rfl hl.1 rfl (lv_room (Nat.le_of_ble_eq_true rfl)) dX12_ways_238 ⟨Nat.le_of_ble_eq_true rfl, Nat.le_of_ble_eq_true rfl⟩) hS (fun r_55 G_56 H locs hpo hW hS => ?_)
            obtain ⟨hB_G_56, hq_57, f_59, hp_58⟩ := hpo
            have hF := hF.call hq_57 (by decide) (by decide)
            refine lv_if_eq (tgt := 259) hx hb dX12_ways_241 (by decide) (fun c_60 => ?_) (fun c_60 => ?_)
            · have c_60 : r_55.toInt = 0 := xI_eq rfl rfl c_60
              obtain ⟨y_61, ey_61⟩ : ∃ q, q = x_42 + 1 := ⟨_, rfl⟩
              have ty_61 : y_61.toInt = x_42.toInt + 1 := xI_add rfl rfl ey_61 (by omega) (by omega)
              refine lv_iinc (v := y_61) (lv' := [(7, .int y_61), (5, .long x_43), (0, .ref (a 66))]) hx hb dX12_ways_259 hl (k := 0) rfl (by rw [ey_61]; rfl) (by decide) rfl (fun ls hl => ?_)
              refine lv_goto (tgt := 225) hx hb dX12_ways_262 (by decide) ?_
              exact ih_40 (800 - y_61.toInt : Int).toNat (by omega) _ _ _ ⟨G_56, y_61, x_43, (Int.toNat_of_nonneg (by omega)), ⟨by omega, by omega⟩, hW, hB_G_56, hF, ((Fr.rf.call hq_39 (by decide) (by decide)).call hq_57 (by decide) (by decide)), hS, lv_sub hl [0, 1, 2] rfl⟩
            · have c_60 : r_55.toInt ≠ 0 := xI_ne rfl rfl c_60
              refine lv_lload hx hb dX12_ways_244 (lv_at hl 1 rfl) ?_
              refine lv_aload_n hx hb dX12_ways_246 rfl (lv_at hl 2 rfl) ?_
              refine S_getR (n := 101) (C := RX12) (T := TX12) (N := 89) hx hb hg iX12 hown hK hW kd_66 rfl 67 (by decide) (hg (Cond.fieldLink RX12 124 "SlabWalkModel" "ways" "[J") m1381) (fun _ h9 => h9) rfl dX12_ways_247 ?_
              refine lv_iload hx hb dX12_ways_250 (lv_at hl 0 rfl) ?_
              refine S_lald hx hb hK hW kd_101 (vin (by omega) (by omega)) dX12_ways_252 (fun y_62 ey_62 => ?_)
              refine lv_ladd hx hb dX12_ways_253 ?_
              refine lv_topl (fun y_63 ey_63 => ?_)
              refine S_calll (va_runS (As := [.long y_63]) (rest := []) ⟨hx, hb, hml, hown, hts⟩ (n_capped l D k A a z G_56 y_63 ) (va_cwS 1 hts (gd_S hgd m1879 m1880 m131 m1881) rfl rfl rfl (by decide +kernel) ⟨Nat.le_of_ble_eq_true rfl, Nat.le_of_ble_eq_true rfl⟩) (pre_S hW hB_G_56 hK hZ hS) rfl rfl hl.1 rfl (lv_room (Nat.le_of_ble_eq_true rfl)) dX12_ways_254 ⟨Nat.le_of_ble_eq_true rfl, Nat.le_of_ble_eq_true rfl⟩) hS (fun r_64 G_65 H locs hpo hW hS => ?_)
              obtain ⟨hB_G_65, hq_66⟩ := hpo
              have hF := hF.call hq_66 (by decide) (by decide)
              refine lv_lstore (lv' := [(5, .long r_64), (7, .int x_42), (0, .ref (a 66))]) hx hb dX12_ways_257 hl (by decide) rfl (fun ls hl => ?_)
              obtain ⟨y_68, ey_68⟩ : ∃ q, q = x_42 + 1 := ⟨_, rfl⟩
              have ty_68 : y_68.toInt = x_42.toInt + 1 := xI_add rfl rfl ey_68 (by omega) (by omega)
              refine lv_iinc (v := y_68) (lv' := [(7, .int y_68), (5, .long r_64), (0, .ref (a 66))]) hx hb dX12_ways_259 hl (k := 1) rfl (by rw [ey_68]; rfl) (by decide) rfl (fun ls hl => ?_)
              refine lv_goto (tgt := 225) hx hb dX12_ways_262 (by decide) ?_
              exact ih_40 (800 - y_68.toInt : Int).toNat (by omega) _ _ _ ⟨G_65, y_68, r_64, (Int.toNat_of_nonneg (by omega)), ⟨by omega, by omega⟩, hW, hB_G_65, hF, (((Fr.rf.call hq_39 (by decide) (by decide)).call hq_57 (by decide) (by decide)).call hq_66 (by decide) (by decide)), hS, lv_sub hl [0, 1, 2] rfl⟩
        · have c_37 : x_33.toInt < p3.toInt := xI_nle rfl rfl c_37
          refine lv_iconst (v := 0) hx hb dX12_ways_111 (by decide) ?_
          refine lv_istore (lv' := [(6, .int 0), (5, .int x_33), (0, .ref (a 66)), (4, .int p3)]) hx hb dX12_ways_112 hl (by decide) rfl (fun ls hl => ?_)
          have qc_74 : (0 : Int32).toInt = 0 := rfl
          refine loop_N (Inv := fun n H locs ls => ∃ (G_69 : GS) (x_73 : Int32), (n : Int) = 1024 - x_73.toInt ∧ (0 ≤ x_73.toInt ∧ x_73.toInt ≤ 1024) ∧ Wd D k A a G_69 H ∧ Bd G_69 ∧ Fr [101, 102, 76, 97, 98] [(66, 59), (66, 60), (66, 61), (66, 62), (66, 63)] G G_69 ∧ Fr [102] [] G_29 G_69 ∧ va_S A s.heap H locs ∧ lv_has ls 8 [(6, .int x_73), (5, .int x_33), (0, .ref (a 66)), (4, .int p3)]) (fun n_72 H locs ls ih_71 hI => ?_) (1024 - 0 : Int).toNat ⟨G_29, 0, (Int.toNat_of_nonneg (by omega)), ⟨by omega, by omega⟩, hW, hB_G_29, hF, Fr.rf, hS, lv_sub hl [0, 1, 2, 3] rfl⟩
          obtain ⟨G_69, x_73, hn_76, f_75, hW, hB_G_69, hF, hq_70, hS, hl⟩ := hI
          refine lv_iload hx hb dX12_ways_114 (lv_at hl 0 rfl) ?_
          refine lv_sipush (v := 1024) hx hb dX12_ways_116 (by decide) ?_
          refine lv_icmp_ge (tgt := 136) hx hb dX12_ways_119 (by decide) (fun c_77 => ?_) (fun c_77 => ?_)
          · have c_77 : 1024 ≤ x_73.toInt := xI_le rfl rfl c_77
            refine lv_iconst (v := 0) hx hb dX12_ways_136 (by decide) ?_
            refine lv_istore (lv' := [(6, .int 0), (5, .int x_33), (0, .ref (a 66)), (4, .int p3)]) hx hb dX12_ways_137 hl (by decide) rfl (fun ls hl => ?_)
            have qc_83 : (0 : Int32).toInt = 0 := rfl
            refine loop_N (Inv := fun n H locs ls => ∃ (G_78 : GS) (x_82 : Int32), (n : Int) = 800 - x_82.toInt ∧ (0 ≤ x_82.toInt ∧ x_82.toInt ≤ 800) ∧ Wd D k A a G_78 H ∧ Bd G_78 ∧ Fr [101, 102, 76, 97, 98] [(66, 59), (66, 60), (66, 61), (66, 62), (66, 63)] G G_78 ∧ Fr [102] [] G_69 G_78 ∧ va_S A s.heap H locs ∧ lv_has ls 8 [(6, .int x_82), (5, .int x_33), (0, .ref (a 66)), (4, .int p3)]) (fun n_81 H locs ls ih_80 hI => ?_) (800 - 0 : Int).toNat ⟨G_69, 0, (Int.toNat_of_nonneg (by omega)), ⟨by omega, by omega⟩, hW, hB_G_69, hF, Fr.rf, hS, lv_sub hl [0, 1, 2, 3] rfl⟩
            obtain ⟨G_78, x_82, hn_85, f_84, hW, hB_G_78, hF, hq_79, hS, hl⟩ := hI
            refine lv_iload hx hb dX12_ways_139 (lv_at hl 0 rfl) ?_
            refine lv_sipush (v := 800) hx hb dX12_ways_141 (by decide) ?_
            refine lv_icmp_ge (tgt := 182) hx hb dX12_ways_144 (by decide) (fun c_86 => ?_) (fun c_86 => ?_)
            · have c_86 : 800 ≤ x_82.toInt := xI_le rfl rfl c_86
              refine lv_iconst (v := 0) hx hb dX12_ways_182 (by decide) ?_
              refine lv_istore (lv' := [(6, .int 0), (5, .int x_33), (0, .ref (a 66)), (4, .int p3)]) hx hb dX12_ways_183 hl (by decide) rfl (fun ls hl => ?_)
              have qc_92 : (0 : Int32).toInt = 0 := rfl
              refine loop_N (Inv := fun n H locs ls => ∃ (G_87 : GS) (x_91 : Int32), (n : Int) = 1024 - x_91.toInt ∧ (0 ≤ x_91.toInt ∧ x_91.toInt ≤ 1024) ∧ Wd D k A a G_87 H ∧ Bd G_87 ∧ Fr [101, 102, 76, 97, 98] [(66, 59), (66, 60), (66, 61), (66, 62), (66, 63)] G G_87 ∧ Fr [101] [] G_78 G_87 ∧ va_S A s.heap H locs ∧ lv_has ls 8 [(6, .int x_91), (5, .int x_33), (0, .ref (a 66)), (4, .int p3)]) (fun n_90 H locs ls ih_89 hI => ?_) (1024 - 0 : Int).toNat ⟨G_78, 0, (Int.toNat_of_nonneg (by omega)), ⟨by omega, by omega⟩, hW, hB_G_78, hF, Fr.rf, hS, lv_sub hl [0, 1, 2, 3] rfl⟩
              obtain ⟨G_87, x_91, hn_94, f_93, hW, hB_G_87, hF, hq_88, hS, hl⟩ := hI
              refine lv_iload hx hb dX12_ways_185 (lv_at hl 0 rfl) ?_
              refine lv_sipush (v := 1024) hx hb dX12_ways_187 (by decide) ?_
              refine lv_icmp_ge (tgt := 213) hx hb dX12_ways_190 (by decide) (fun c_95 => ?_) (fun c_95 => ?_)
              · have c_95 : 1024 ≤ x_91.toInt := xI_le rfl rfl c_95
                obtain ⟨y_96, ey_96⟩ : ∃ q, q = x_33 + 1 := ⟨_, rfl⟩
                have ty_96 : y_96.toInt = x_33.toInt + 1 := xI_add rfl rfl ey_96 (by omega) (by omega)
                refine lv_iinc (v := y_96) (lv' := [(5, .int y_96), (6, .int x_91), (0, .ref (a 66)), (4, .int p3)]) hx hb dX12_ways_213 hl (k := 1) rfl (by rw [ey_96]; rfl) (by decide) rfl (fun ls hl => ?_)
                refine lv_goto (tgt := 104) hx hb dX12_ways_216 (by decide) ?_
                exact ih_31 (60 - y_96.toInt : Int).toNat (by omega) _ _ _ ⟨G_87, y_96, (Int.toNat_of_nonneg (by omega)), ⟨by omega, by omega⟩, hW, hB_G_87, hF, ((((Fr.rf.call hq_30 (by decide) (by decide)).call hq_70 (by decide) (by decide)).call hq_79 (by decide) (by decide)).call hq_88 (by decide) (by decide)), hS, lv_sub hl [0, 2, 3] rfl⟩
              · have c_95 : x_91.toInt < 1024 := xI_nle rfl rfl c_95
                refine lv_aload_n hx hb dX12_ways_193 rfl (lv_at hl 2 rfl) ?_
                refine S_getR (n := 101) (C := RX12) (T := TX12) (N := 89) hx hb hg iX12 hown hK hW kd_66 rfl 67 (by decide) (hg (Cond.fieldLink RX12 124 "SlabWalkModel" "ways" "[J") m1381) (fun _ h9 => h9) rfl dX12_ways_194 ?_
                refine lv_iload hx hb dX12_ways_197 (lv_at hl 0 rfl) ?_
                refine lv_aload_n hx hb dX12_ways_199 rfl (lv_at hl 2 rfl) ?_
                refine S_getR (n := 102) (C := RX12) (T := TX12) (N := 89) hx hb hg iX12 hown hK hW kd_66 rfl 68 (by decide) (hg (Cond.fieldLink RX12 127 "SlabWalkModel" "next" "[J") m1382) (fun _ h9 => h9) rfl dX12_ways_200 ?_
                refine lv_iload hx hb dX12_ways_203 (lv_at hl 0 rfl) ?_
                refine S_lald hx hb hK hW kd_102 (vin (by omega) (by omega)) dX12_ways_205 (fun y_97 ey_97 => ?_)
                refine S_last hx hb hK hW hS kd_101 (vin (by omega) (by omega)) dX12_ways_206 (fun G_98 H locs eG_98 hW hS => ?_)
                have hB_G_98 : Bd G_98 := hB_G_87.putl eG_98
                have hF := hF.putl eG_98 (Or.inl (by decide))
                obtain ⟨y_99, ey_99⟩ : ∃ q, q = x_91 + 1 := ⟨_, rfl⟩
                have ty_99 : y_99.toInt = x_91.toInt + 1 := xI_add rfl rfl ey_99 (by omega) (by omega)
                refine lv_iinc (v := y_99) (lv' := [(6, .int y_99), (5, .int x_33), (0, .ref (a 66)), (4, .int p3)]) hx hb dX12_ways_207 hl (k := 0) rfl (by rw [ey_99]; rfl) (by decide) rfl (fun ls hl => ?_)
                refine lv_goto (tgt := 185) hx hb dX12_ways_210 (by decide) ?_
                exact ih_89 (1024 - y_99.toInt : Int).toNat (by omega) _ _ _ ⟨G_98, y_99, (Int.toNat_of_nonneg (by omega)), ⟨by omega, by omega⟩, hW, hB_G_98, hF, ((Fr.rf.call hq_88 (by decide) (by decide)).putl eG_98 (Or.inl (by decide))), hS, lv_sub hl [0, 1, 2, 3] rfl⟩
            · have c_86 : x_82.toInt < 800 := xI_nle rfl rfl c_86
              refine lv_aload_n hx hb dX12_ways_147 rfl (lv_at hl 2 rfl) ?_
              refine S_getR (n := 101) (C := RX12) (T := TX12) (N := 89) hx hb hg iX12 hown hK hW kd_66 rfl 67 (by decide) (hg (Cond.fieldLink RX12 124 "SlabWalkModel" "ways" "[J") m1381) (fun _ h9 => h9) rfl dX12_ways_148 ?_
              refine lv_iload hx hb dX12_ways_151 (lv_at hl 0 rfl) ?_
              refine S_lald hx hb hK hW kd_101 (vin (by omega) (by omega)) dX12_ways_153 (fun y_100 ey_100 => ?_)
              refine lv_lconst (v := 0) hx hb dX12_ways_154 (by decide) ?_
              refine W.lcmp hx hb dX12_ways_155 ?_
              refine lv_topi (fun y_101 ey_101 => ?_)
              have ty_101 := lcmp_rng ey_101
              refine lv_if_le (tgt := 176) hx hb dX12_ways_156 (by decide) (fun c_102 => ?_) (fun c_102 => ?_)
              · have c_102 : y_101.toInt ≤ 0 := xI_le rfl rfl c_102
                obtain ⟨y_103, ey_103⟩ : ∃ q, q = x_82 + 1 := ⟨_, rfl⟩
                have ty_103 : y_103.toInt = x_82.toInt + 1 := xI_add rfl rfl ey_103 (by omega) (by omega)
                refine lv_iinc (v := y_103) (lv' := [(6, .int y_103), (5, .int x_33), (0, .ref (a 66)), (4, .int p3)]) hx hb dX12_ways_176 hl (k := 0) rfl (by rw [ey_103]; rfl) (by decide) rfl (fun ls hl => ?_)
                refine lv_goto (tgt := 139) hx hb dX12_ways_179 (by decide) ?_
                exact ih_80 (800 - y_103.toInt : Int).toNat (by omega) _ _ _ ⟨G_78, y_103, (Int.toNat_of_nonneg (by omega)), ⟨by omega, by omega⟩, hW, hB_G_78, hF, (Fr.rf.call hq_79 (by decide) (by decide)), hS, lv_sub hl [0, 1, 2, 3] rfl⟩
              · have c_102 : 0 < y_101.toInt := xI_nle rfl rfl c_102
                refine lv_aload_n hx hb dX12_ways_159 rfl (lv_at hl 2 rfl) ?_
                refine lv_iload hx hb dX12_ways_160 (lv_at hl 0 rfl) ?_
                refine lv_iconst (v := 2) hx hb dX12_ways_162 (by decide) ?_
                refine lv_idiv hx hb dX12_ways_163 (by decide) ?_
                refine lv_topi (fun y_104 ey_104 => ?_)
                have ty_104 : y_104.toInt = x_82.toInt / 2 := xI_div rfl ey_104 (by decide) (by omega)
                have b_105 : 0 ≤ (G_17.1 66 59).toInt ∧ (G_17.1 66 59).toInt ≤ 400 := hB_G_17.i 66 59 rfl rfl
                have g_106 : (G_78.1 66 59).toInt = (G_17.1 66 59).toInt := by rw [show G_78.1 66 59 = (G_17.1 66 59) from ((hq_79.i 66 59 (by decide) (by decide)).trans ((hq_70.i 66 59 (by decide) (by decide)).trans ((hq_30.i 66 59 (by decide) (by decide)).trans (hq_21.i 66 59 (by decide) (by decide)))))]
                have b_107 : 0 ≤ (G_17.1 66 60).toInt ∧ (G_17.1 66 60).toInt ≤ 12 := hB_G_17.i 66 60 rfl rfl
                have g_108 : (G_78.1 66 60).toInt = (G_17.1 66 60).toInt := by rw [show G_78.1 66 60 = (G_17.1 66 60) from ((hq_79.i 66 60 (by decide) (by decide)).trans ((hq_70.i 66 60 (by decide) (by decide)).trans ((hq_30.i 66 60 (by decide) (by decide)).trans (hq_21.i 66 60 (by decide) (by decide)))))]
                have b_109 : 0 ≤ (G_17.1 66 62).toInt ∧ (G_17.1 66 62).toInt ≤ 60 := hB_G_17.i 66 62 rfl rfl
                have g_110 : (G_78.1 66 62).toInt = (G_17.1 66 62).toInt := by rw [show G_78.1 66 62 = (G_17.1 66 62) from ((hq_79.i 66 62 (by decide) (by decide)).trans ((hq_70.i 66 62 (by decide) (by decide)).trans ((hq_30.i 66 62 (by decide) (by decide)).trans (hq_21.i 66 62 (by decide) (by decide)))))]
                refine S_calli (va_runV (As := [.int y_104]) (rest := []) ⟨hx, hb, hml, hown, hts⟩ (n_isEnd l D k A a z G_78 y_104 ⟨by omega, by omega⟩) (cwV 1 hts (gd_V hgd m1854 m1856 m95 m131 m1857) rfl rfl rfl (by decide +kernel) ⟨Nat.le_of_ble_eq_true rfl, Nat.le_of_ble_eq_true rfl⟩) (pre_V hW hB_G_78 hK hZ hS kd_66 rfl) rfl rfl hl.1 rfl (lv_room (Nat.le_of_ble_eq_true rfl)) dX12_ways_164 ⟨Nat.le_of_ble_eq_true rfl, Nat.le_of_ble_eq_true rfl⟩) hS (fun r_111 G_112 H locs hpo hW hS => ?_)
                obtain ⟨hB_G_112, hq_113, f_115, hp_114⟩ := hpo
                have hF := hF.call hq_113 (by decide) (by decide)
                refine lv_if_ne (tgt := 176) hx hb dX12_ways_167 (by decide) (fun c_116 => ?_) (fun c_116 => ?_)
                · have c_116 : r_111.toInt ≠ 0 := xI_ne rfl rfl c_116
                  obtain ⟨y_117, ey_117⟩ : ∃ q, q = x_82 + 1 := ⟨_, rfl⟩
                  have ty_117 : y_117.toInt = x_82.toInt + 1 := xI_add rfl rfl ey_117 (by omega) (by omega)
                  refine lv_iinc (v := y_117) (lv' := [(6, .int y_117), (5, .int x_33), (0, .ref (a 66)), (4, .int p3)]) hx hb dX12_ways_176 hl (k := 0) rfl (by rw [ey_117]; rfl) (by decide) rfl (fun ls hl => ?_)
                  refine lv_goto (tgt := 139) hx hb dX12_ways_179 (by decide) ?_
                  exact ih_80 (800 - y_117.toInt : Int).toNat (by omega) _ _ _ ⟨G_112, y_117, (Int.toNat_of_nonneg (by omega)), ⟨by omega, by omega⟩, hW, hB_G_112, hF, ((Fr.rf.call hq_79 (by decide) (by decide)).call hq_113 (by decide) (by decide)), hS, lv_sub hl [0, 1, 2, 3] rfl⟩
                · have c_116 : r_111.toInt = 0 := xI_eq rfl rfl c_116
                  refine lv_aload_n hx hb dX12_ways_170 rfl (lv_at hl 2 rfl) ?_
                  refine lv_iload hx hb dX12_ways_171 (lv_at hl 0 rfl) ?_
                  refine S_callv (va_runV (As := [.int x_82]) (rest := []) ⟨hx, hb, hml, hown, hts⟩ (n_goOn l D k A a z G_112 x_82 ⟨by omega, by omega⟩) (cwV 1 hts (gd_V hgd m1875 m1877 m98 m131 m1878) rfl rfl rfl (by decide +kernel) ⟨Nat.le_of_ble_eq_true rfl, Nat.le_of_ble_eq_true rfl⟩) (pre_V hW hB_G_112 hK hZ hS kd_66 rfl) rfl rfl hl.1 rfl (lv_room (Nat.le_of_ble_eq_true rfl)) dX12_ways_173 ⟨Nat.le_of_ble_eq_true rfl, Nat.le_of_ble_eq_true rfl⟩) hS (fun G_119 H locs hpo hW hS => ?_)
                  obtain ⟨hB_G_119, hq_120⟩ := hpo
                  have hF := hF.call hq_120 (by decide) (by decide)
                  obtain ⟨y_122, ey_122⟩ : ∃ q, q = x_82 + 1 := ⟨_, rfl⟩
                  have ty_122 : y_122.toInt = x_82.toInt + 1 := xI_add rfl rfl ey_122 (by omega) (by omega)
                  refine lv_iinc (v := y_122) (lv' := [(6, .int y_122), (5, .int x_33), (0, .ref (a 66)), (4, .int p3)]) hx hb dX12_ways_176 hl (k := 0) rfl (by rw [ey_122]; rfl) (by decide) rfl (fun ls hl => ?_)
                  refine lv_goto (tgt := 139) hx hb dX12_ways_179 (by decide) ?_
                  exact ih_80 (800 - y_122.toInt : Int).toNat (by omega) _ _ _ ⟨G_119, y_122, (Int.toNat_of_nonneg (by omega)), ⟨by omega, by omega⟩, hW, hB_G_119, hF, (((Fr.rf.call hq_79 (by decide) (by decide)).call hq_113 (by decide) (by decide)).call hq_120 (by decide) (by decide)), hS, lv_sub hl [0, 1, 2, 3] rfl⟩
          · have c_77 : x_73.toInt < 1024 := xI_nle rfl rfl c_77
            refine lv_aload_n hx hb dX12_ways_122 rfl (lv_at hl 2 rfl) ?_
            refine S_getR (n := 102) (C := RX12) (T := TX12) (N := 89) hx hb hg iX12 hown hK hW kd_66 rfl 68 (by decide) (hg (Cond.fieldLink RX12 127 "SlabWalkModel" "next" "[J") m1382) (fun _ h9 => h9) rfl dX12_ways_123 ?_
            refine lv_iload hx hb dX12_ways_126 (lv_at hl 0 rfl) ?_
            refine lv_lconst (v := 0) hx hb dX12_ways_128 (by decide) ?_
            refine S_last hx hb hK hW hS kd_102 (vin (by omega) (by omega)) dX12_ways_129 (fun G_123 H locs eG_123 hW hS => ?_)
            have hB_G_123 : Bd G_123 := hB_G_69.putl eG_123
            have hF := hF.putl eG_123 (Or.inl (by decide))
            obtain ⟨y_124, ey_124⟩ : ∃ q, q = x_73 + 1 := ⟨_, rfl⟩
            have ty_124 : y_124.toInt = x_73.toInt + 1 := xI_add rfl rfl ey_124 (by omega) (by omega)
            refine lv_iinc (v := y_124) (lv' := [(6, .int y_124), (5, .int x_33), (0, .ref (a 66)), (4, .int p3)]) hx hb dX12_ways_130 hl (k := 0) rfl (by rw [ey_124]; rfl) (by decide) rfl (fun ls hl => ?_)
            refine lv_goto (tgt := 114) hx hb dX12_ways_133 (by decide) ?_
            exact ih_71 (1024 - y_124.toInt : Int).toNat (by omega) _ _ _ ⟨G_123, y_124, (Int.toNat_of_nonneg (by omega)), ⟨by omega, by omega⟩, hW, hB_G_123, hF, ((Fr.rf.call hq_70 (by decide) (by decide)).putl eG_123 (Or.inl (by decide))), hS, lv_sub hl [0, 1, 2, 3] rfl⟩
      · have c_28 : x_24.toInt < 1024 := xI_nle rfl rfl c_28
        refine lv_aload_n hx hb dX12_ways_43 rfl (lv_at hl 1 rfl) ?_
        refine S_getR (n := 101) (C := RX12) (T := TX12) (N := 89) hx hb hg iX12 hown hK hW kd_66 rfl 67 (by decide) (hg (Cond.fieldLink RX12 124 "SlabWalkModel" "ways" "[J") m1381) (fun _ h9 => h9) rfl dX12_ways_44 ?_
        refine lv_iload hx hb dX12_ways_47 (lv_at hl 0 rfl) ?_
        refine lv_iload hx hb dX12_ways_49 (lv_at hl 0 rfl) ?_
        refine lv_iconst (v := 2) hx hb dX12_ways_51 (by decide) ?_
        refine lv_irem hx hb dX12_ways_52 (by decide) ?_
        refine lv_topi (fun y_125 ey_125 => ?_)
        have ty_125 : y_125.toInt = x_24.toInt % 2 := xI_mod rfl ey_125 (by decide) (by omega)
        refine lv_if_ne (tgt := 93) hx hb dX12_ways_53 (by decide) (fun c_126 => ?_) (fun c_126 => ?_)
        · have c_126 : y_125.toInt ≠ 0 := xI_ne rfl rfl c_126
          refine lv_lconst (v := 0) hx hb dX12_ways_93 (by decide) ?_
          refine S_last hx hb hK hW hS kd_101 (vin (by omega) (by omega)) dX12_ways_94 (fun G_127 H locs eG_127 hW hS => ?_)
          have hB_G_127 : Bd G_127 := hB_G_20.putl eG_127
          have hF := hF.putl eG_127 (Or.inl (by decide))
          obtain ⟨y_128, ey_128⟩ : ∃ q, q = x_24 + 1 := ⟨_, rfl⟩
          have ty_128 : y_128.toInt = x_24.toInt + 1 := xI_add rfl rfl ey_128 (by omega) (by omega)
          refine lv_iinc (v := y_128) (lv' := [(5, .int y_128), (0, .ref (a 66)), (4, .int p3)]) hx hb dX12_ways_95 hl (k := 0) rfl (by rw [ey_128]; rfl) (by decide) rfl (fun ls hl => ?_)
          refine lv_goto (tgt := 35) hx hb dX12_ways_98 (by decide) ?_
          exact ih_22 (1024 - y_128.toInt : Int).toNat (by omega) _ _ _ ⟨G_127, y_128, (Int.toNat_of_nonneg (by omega)), ⟨by omega, by omega⟩, hW, hB_G_127, hF, ((Fr.rf.call hq_21 (by decide) (by decide)).putl eG_127 (Or.inl (by decide))), hS, lv_sub hl [0, 1, 2] rfl⟩
        · have c_126 : y_125.toInt = 0 := xI_eq rfl rfl c_126
          refine lv_iload hx hb dX12_ways_56 (lv_at hl 0 rfl) ?_
          refine lv_iconst (v := 2) hx hb dX12_ways_58 (by decide) ?_
          refine lv_idiv hx hb dX12_ways_59 (by decide) ?_
          refine lv_topi (fun y_129 ey_129 => ?_)
          have ty_129 : y_129.toInt = x_24.toInt / 2 := xI_div rfl ey_129 (by decide) (by omega)
          refine lv_aload_n hx hb dX12_ways_60 rfl (lv_at hl 1 rfl) ?_
          have b_130 : 0 ≤ (G_17.1 66 62).toInt ∧ (G_17.1 66 62).toInt ≤ 60 := hB_G_17.i 66 62 rfl rfl
          refine S_getI (v := (G_17.1 66 62)) (C := RX12) (T := TX12) (N := 89) hx hb hg iX12 hown hK hW kd_66 rfl 62 (by decide) (hg (Cond.fieldLink RX12 478 "SlabWalkModel" "most" "I") m1376) (fun _ h9 => h9) rfl (hq_21.i 66 62 (by decide) (by decide)) dX12_ways_61 ?_
          refine lv_icmp_ge (tgt := 93) hx hb dX12_ways_64 (by decide) (fun c_131 => ?_) (fun c_131 => ?_)
          · have c_131 : (G_17.1 66 62).toInt ≤ y_129.toInt := xI_le rfl rfl c_131
            refine lv_lconst (v := 0) hx hb dX12_ways_93 (by decide) ?_
            refine S_last hx hb hK hW hS kd_101 (vin (by omega) (by omega)) dX12_ways_94 (fun G_132 H locs eG_132 hW hS => ?_)
            have hB_G_132 : Bd G_132 := hB_G_20.putl eG_132
            have hF := hF.putl eG_132 (Or.inl (by decide))
            obtain ⟨y_133, ey_133⟩ : ∃ q, q = x_24 + 1 := ⟨_, rfl⟩
            have ty_133 : y_133.toInt = x_24.toInt + 1 := xI_add rfl rfl ey_133 (by omega) (by omega)
            refine lv_iinc (v := y_133) (lv' := [(5, .int y_133), (0, .ref (a 66)), (4, .int p3)]) hx hb dX12_ways_95 hl (k := 0) rfl (by rw [ey_133]; rfl) (by decide) rfl (fun ls hl => ?_)
            refine lv_goto (tgt := 35) hx hb dX12_ways_98 (by decide) ?_
            exact ih_22 (1024 - y_133.toInt : Int).toNat (by omega) _ _ _ ⟨G_132, y_133, (Int.toNat_of_nonneg (by omega)), ⟨by omega, by omega⟩, hW, hB_G_132, hF, ((Fr.rf.call hq_21 (by decide) (by decide)).putl eG_132 (Or.inl (by decide))), hS, lv_sub hl [0, 1, 2] rfl⟩
          · have c_131 : y_129.toInt < (G_17.1 66 62).toInt := xI_nle rfl rfl c_131
            refine lv_iload hx hb dX12_ways_67 (lv_at hl 0 rfl) ?_
            refine lv_iconst (v := 2) hx hb dX12_ways_69 (by decide) ?_
            refine lv_idiv hx hb dX12_ways_70 (by decide) ?_
            refine lv_topi (fun y_134 ey_134 => ?_)
            have ty_134 : y_134.toInt = x_24.toInt / 2 := xI_div rfl ey_134 (by decide) (by omega)
            refine lv_sipush (v := 400) hx hb dX12_ways_71 (by decide) ?_
            refine lv_icmp_ge (tgt := 93) hx hb dX12_ways_74 (by decide) (fun c_135 => ?_) (fun c_135 => ?_)
            · have c_135 : 400 ≤ y_134.toInt := xI_le rfl rfl c_135
              refine lv_lconst (v := 0) hx hb dX12_ways_93 (by decide) ?_
              refine S_last hx hb hK hW hS kd_101 (vin (by omega) (by omega)) dX12_ways_94 (fun G_136 H locs eG_136 hW hS => ?_)
              have hB_G_136 : Bd G_136 := hB_G_20.putl eG_136
              have hF := hF.putl eG_136 (Or.inl (by decide))
              obtain ⟨y_137, ey_137⟩ : ∃ q, q = x_24 + 1 := ⟨_, rfl⟩
              have ty_137 : y_137.toInt = x_24.toInt + 1 := xI_add rfl rfl ey_137 (by omega) (by omega)
              refine lv_iinc (v := y_137) (lv' := [(5, .int y_137), (0, .ref (a 66)), (4, .int p3)]) hx hb dX12_ways_95 hl (k := 0) rfl (by rw [ey_137]; rfl) (by decide) rfl (fun ls hl => ?_)
              refine lv_goto (tgt := 35) hx hb dX12_ways_98 (by decide) ?_
              exact ih_22 (1024 - y_137.toInt : Int).toNat (by omega) _ _ _ ⟨G_136, y_137, (Int.toNat_of_nonneg (by omega)), ⟨by omega, by omega⟩, hW, hB_G_136, hF, ((Fr.rf.call hq_21 (by decide) (by decide)).putl eG_136 (Or.inl (by decide))), hS, lv_sub hl [0, 1, 2] rfl⟩
            · have c_135 : y_134.toInt < 400 := xI_nle rfl rfl c_135
              refine lv_aload_n hx hb dX12_ways_77 rfl (lv_at hl 1 rfl) ?_
              refine S_getR (n := 98) (C := RX12) (T := TX12) (N := 89) hx hb hg iX12 hown hK hW kd_66 rfl 58 (by decide) (hg (Cond.fieldLink RX12 115 "SlabWalkModel" "lawful" "[Z") m1372) (fun _ h9 => h9) rfl dX12_ways_78 ?_
              refine lv_iload hx hb dX12_ways_81 (lv_at hl 0 rfl) ?_
              refine lv_iconst (v := 2) hx hb dX12_ways_83 (by decide) ?_
              refine lv_idiv hx hb dX12_ways_84 (by decide) ?_
              refine lv_topi (fun y_138 ey_138 => ?_)
              have ty_138 : y_138.toInt = x_24.toInt / 2 := xI_div rfl ey_138 (by decide) (by omega)
              refine S_zald hx hb hK hW kd_98 (vin (by omega) (by omega)) dX12_ways_85 (fun y_139 ey_139 => ?_)
              have ty_139 := hB_G_20.law ey_139
              refine lv_if_eq (tgt := 93) hx hb dX12_ways_86 (by decide) (fun c_140 => ?_) (fun c_140 => ?_)
              · have c_140 : y_139.toInt = 0 := xI_eq rfl rfl c_140
                refine lv_lconst (v := 0) hx hb dX12_ways_93 (by decide) ?_
                refine S_last hx hb hK hW hS kd_101 (vin (by omega) (by omega)) dX12_ways_94 (fun G_141 H locs eG_141 hW hS => ?_)
                have hB_G_141 : Bd G_141 := hB_G_20.putl eG_141
                have hF := hF.putl eG_141 (Or.inl (by decide))
                obtain ⟨y_142, ey_142⟩ : ∃ q, q = x_24 + 1 := ⟨_, rfl⟩
                have ty_142 : y_142.toInt = x_24.toInt + 1 := xI_add rfl rfl ey_142 (by omega) (by omega)
                refine lv_iinc (v := y_142) (lv' := [(5, .int y_142), (0, .ref (a 66)), (4, .int p3)]) hx hb dX12_ways_95 hl (k := 0) rfl (by rw [ey_142]; rfl) (by decide) rfl (fun ls hl => ?_)
                refine lv_goto (tgt := 35) hx hb dX12_ways_98 (by decide) ?_
                exact ih_22 (1024 - y_142.toInt : Int).toNat (by omega) _ _ _ ⟨G_141, y_142, (Int.toNat_of_nonneg (by omega)), ⟨by omega, by omega⟩, hW, hB_G_141, hF, ((Fr.rf.call hq_21 (by decide) (by decide)).putl eG_141 (Or.inl (by decide))), hS, lv_sub hl [0, 1, 2] rfl⟩
              · have c_140 : y_139.toInt ≠ 0 := xI_ne rfl rfl c_140
                refine lv_lconst (v := 1) hx hb dX12_ways_89 (by decide) ?_
                refine lv_goto (tgt := 94) hx hb dX12_ways_90 (by decide) ?_
                refine S_last hx hb hK hW hS kd_101 (vin (by omega) (by omega)) dX12_ways_94 (fun G_143 H locs eG_143 hW hS => ?_)
                have hB_G_143 : Bd G_143 := hB_G_20.putl eG_143
                have hF := hF.putl eG_143 (Or.inl (by decide))
                obtain ⟨y_144, ey_144⟩ : ∃ q, q = x_24 + 1 := ⟨_, rfl⟩
                have ty_144 : y_144.toInt = x_24.toInt + 1 := xI_add rfl rfl ey_144 (by omega) (by omega)
                refine lv_iinc (v := y_144) (lv' := [(5, .int y_144), (0, .ref (a 66)), (4, .int p3)]) hx hb dX12_ways_95 hl (k := 0) rfl (by rw [ey_144]; rfl) (by decide) rfl (fun ls hl => ?_)
                refine lv_goto (tgt := 35) hx hb dX12_ways_98 (by decide) ?_
                exact ih_22 (1024 - y_144.toInt : Int).toNat (by omega) _ _ _ ⟨G_143, y_144, (Int.toNat_of_nonneg (by omega)), ⟨by omega, by omega⟩, hW, hB_G_143, hF, ((Fr.rf.call hq_21 (by decide) (by decide)).putl eG_143 (Or.inl (by decide))), hS, lv_sub hl [0, 1, 2] rfl⟩
    · have c_14 : r_9.toInt = 0 := xI_eq rfl rfl c_14
      refine lv_ldc2 (v := (-1)) hx hb hown (hg (Cond.constantLong RX12 517 (-1)) m1874) dX12_ways_21 ?_
      exact W.lret (v := (-1)) hx hb hr (fun t ht _ => ⟨⟨(-1), G_10, rfl, ⟨hB_G_10, hF⟩, wd_t ht hW⟩, hS.F ht⟩) hS.2.2 dX12_ways_24
