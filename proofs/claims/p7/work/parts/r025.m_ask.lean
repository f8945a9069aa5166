theorem m97 : Cond.selects RX12 yX12_lay yX12_lay ∈ gd := gd_mem 97 (by decide +kernel) (by decide +kernel)
theorem m98 : Cond.selects RX12 yX12_goOn yX12_goOn ∈ gd := gd_mem 98 (by decide +kernel) (by decide +kernel)
theorem m99 : Cond.selects RX12 yX12_isEven yX12_isEven ∈ gd := gd_mem 99 (by decide +kernel) (by decide +kernel)
theorem m100 : Cond.selects RX12 yX12_comesToEnd yX12_comesToEnd ∈ gd := gd_mem 100 (by decide +kernel) (by decide +kernel)
theorem m1866 : Cond.methodLink RX12 512 yX12_lay ∈ gd := gd_mem 1866 (by decide +kernel) (by decide +kernel)
theorem m1868 : Cond.instanceMethod yX12_lay ∈ gd := gd_mem 1868 (by decide +kernel) (by decide +kernel)
theorem m1869 : Cond.code yX12_lay cX12_lay 2 none ∈ gd := gd_mem 1869 (by decide +kernel) (by decide +kernel)
theorem m1875 : Cond.methodLink RX12 519 yX12_goOn ∈ gd := gd_mem 1875 (by decide +kernel) (by decide +kernel)
theorem m1877 : Cond.instanceMethod yX12_goOn ∈ gd := gd_mem 1877 (by decide +kernel) (by decide +kernel)
theorem m1878 : Cond.code yX12_goOn cX12_goOn 5 none ∈ gd := gd_mem 1878 (by decide +kernel) (by decide +kernel)
theorem m1887 : Cond.methodLink RX12 526 yX12_isEven ∈ gd := gd_mem 1887 (by decide +kernel) (by decide +kernel)
theorem m1889 : Cond.instanceMethod yX12_isEven ∈ gd := gd_mem 1889 (by decide +kernel) (by decide +kernel)
theorem m1890 : Cond.code yX12_isEven cX12_isEven 6 (some .boolean) ∈ gd := gd_mem 1890 (by decide +kernel) (by decide +kernel)
theorem m1899 : Cond.methodLink RX12 529 yX12_comesToEnd ∈ gd := gd_mem 1899 (by decide +kernel) (by decide +kernel)
theorem m1901 : Cond.instanceMethod yX12_comesToEnd ∈ gd := gd_mem 1901 (by decide +kernel) (by decide +kernel)
theorem m1902 : Cond.code yX12_comesToEnd cX12_comesToEnd 4 (some .boolean) ∈ gd := gd_mem 1902 (by decide +kernel) (by decide +kernel)
theorem dX12_comesToEnd_0 : decode cX12_comesToEnd 0 = .ok (.iload_n 1, 1) := by decide +kernel
theorem dX12_comesToEnd_1 : decode cX12_comesToEnd 1 = .ok (.istore_n 3, 1) := by decide +kernel
theorem dX12_comesToEnd_2 : decode cX12_comesToEnd 2 = .ok (.aload_n 0, 1) := by decide +kernel
theorem dX12_comesToEnd_3 : decode cX12_comesToEnd 3 = .ok (.getfield 115, 3) := by decide +kernel
theorem dX12_comesToEnd_6 : decode cX12_comesToEnd 6 = .ok (.iload_n 3, 1) := by decide +kernel
theorem dX12_comesToEnd_7 : decode cX12_comesToEnd 7 = .ok (.baload, 1) := by decide +kernel
theorem dX12_comesToEnd_8 : decode cX12_comesToEnd 8 = .ok (.ifCond .eq 18, 3) := by decide +kernel
theorem dX12_comesToEnd_11 : decode cX12_comesToEnd 11 = .ok (.aload_n 0, 1) := by decide +kernel
theorem dX12_comesToEnd_12 : decode cX12_comesToEnd 12 = .ok (.iload_n 3, 1) := by decide +kernel
theorem dX12_comesToEnd_13 : decode cX12_comesToEnd 13 = .ok (.invokevirtual 499, 3) := by decide +kernel
theorem dX12_comesToEnd_16 : decode cX12_comesToEnd 16 = .ok (.ifCond .ne 10, 3) := by decide +kernel
theorem dX12_comesToEnd_19 : decode cX12_comesToEnd 19 = .ok (.iload_n 3, 1) := by decide +kernel
theorem dX12_comesToEnd_20 : decode cX12_comesToEnd 20 = .ok (.iload_n 2, 1) := by decide +kernel
theorem dX12_comesToEnd_21 : decode cX12_comesToEnd 21 = .ok (.iadd, 1) := by decide +kernel
theorem dX12_comesToEnd_22 : decode cX12_comesToEnd 22 = .ok (.istore_n 3, 1) := by decide +kernel
theorem dX12_comesToEnd_23 : decode cX12_comesToEnd 23 = .ok (.goto (-21), 3) := by decide +kernel
theorem dX12_comesToEnd_26 : decode cX12_comesToEnd 26 = .ok (.aload_n 0, 1) := by decide +kernel
theorem dX12_comesToEnd_27 : decode cX12_comesToEnd 27 = .ok (.getfield 115, 3) := by decide +kernel
theorem dX12_comesToEnd_30 : decode cX12_comesToEnd 30 = .ok (.iload_n 3, 1) := by decide +kernel
theorem dX12_comesToEnd_31 : decode cX12_comesToEnd 31 = .ok (.baload, 1) := by decide +kernel
theorem dX12_comesToEnd_32 : decode cX12_comesToEnd 32 = .ok (.ireturn, 1) := by decide +kernel
theorem dX12_even_0 : decode cX12_even 0 = .ok (.aload_n 0, 1) := by decide +kernel
theorem dX12_even_1 : decode cX12_even 1 = .ok (.iload_n 1, 1) := by decide +kernel
theorem dX12_even_2 : decode cX12_even 2 = .ok (.iload_n 2, 1) := by decide +kernel
theorem dX12_even_3 : decode cX12_even 3 = .ok (.iload_n 3, 1) := by decide +kernel
theorem dX12_even_4 : decode cX12_even 4 = .ok (.invokevirtual 490, 3) := by decide +kernel
theorem dX12_even_7 : decode cX12_even 7 = .ok (.ifCond .eq 24, 3) := by decide +kernel
theorem dX12_even_10 : decode cX12_even 10 = .ok (.aload_n 0, 1) := by decide +kernel
theorem dX12_even_11 : decode cX12_even 11 = .ok (.iload_n 2, 1) := by decide +kernel
theorem dX12_even_12 : decode cX12_even 12 = .ok (.iload 4, 2) := by decide +kernel
theorem dX12_even_14 : decode cX12_even 14 = .ok (.invokevirtual 456, 3) := by decide +kernel
theorem dX12_even_17 : decode cX12_even 17 = .ok (.ifCond .eq 14, 3) := by decide +kernel
theorem dX12_even_20 : decode cX12_even 20 = .ok (.iload 5, 2) := by decide +kernel
theorem dX12_even_22 : decode cX12_even 22 = .ok (.iconst 1, 1) := by decide +kernel
theorem dX12_even_23 : decode cX12_even 23 = .ok (.bipush 99, 2) := by decide +kernel
theorem dX12_even_25 : decode cX12_even 25 = .ok (.invokestatic 449, 3) := by decide +kernel
theorem dX12_even_28 : decode cX12_even 28 = .ok (.ifCond .ne 5, 3) := by decide +kernel
theorem dX12_even_31 : decode cX12_even 31 = .ok (.iconst (-1), 1) := by decide +kernel
theorem dX12_even_32 : decode cX12_even 32 = .ok (.ireturn, 1) := by decide +kernel
theorem dX12_even_33 : decode cX12_even 33 = .ok (.aload_n 0, 1) := by decide +kernel
theorem dX12_even_34 : decode cX12_even 34 = .ok (.iload_n 1, 1) := by decide +kernel
theorem dX12_even_35 : decode cX12_even 35 = .ok (.iload_n 2, 1) := by decide +kernel
theorem dX12_even_36 : decode cX12_even 36 = .ok (.iload_n 3, 1) := by decide +kernel
theorem dX12_even_37 : decode cX12_even 37 = .ok (.invokevirtual 493, 3) := by decide +kernel
theorem dX12_even_40 : decode cX12_even 40 = .ok (.iconst 0, 1) := by decide +kernel
theorem dX12_even_41 : decode cX12_even 41 = .ok (.istore 6, 2) := by decide +kernel
theorem dX12_even_43 : decode cX12_even 43 = .ok (.iload 4, 2) := by decide +kernel
theorem dX12_even_45 : decode cX12_even 45 = .ok (.istore 7, 2) := by decide +kernel
theorem dX12_even_47 : decode cX12_even 47 = .ok (.iload 7, 2) := by decide +kernel
theorem dX12_even_49 : decode cX12_even 49 = .ok (.sipush 400, 3) := by decide +kernel
theorem dX12_even_52 : decode cX12_even 52 = .ok (.if_icmp .ge 26, 3) := by decide +kernel
theorem dX12_even_55 : decode cX12_even 55 = .ok (.aload_n 0, 1) := by decide +kernel
theorem dX12_even_56 : decode cX12_even 56 = .ok (.getfield 115, 3) := by decide +kernel
theorem dX12_even_59 : decode cX12_even 59 = .ok (.iload 7, 2) := by decide +kernel
theorem dX12_even_61 : decode cX12_even 61 = .ok (.baload, 1) := by decide +kernel
theorem dX12_even_62 : decode cX12_even 62 = .ok (.ifCond .eq 16, 3) := by decide +kernel
theorem dX12_even_65 : decode cX12_even 65 = .ok (.iinc 6 1, 3) := by decide +kernel
theorem dX12_even_68 : decode cX12_even 68 = .ok (.iload 7, 2) := by decide +kernel
theorem dX12_even_70 : decode cX12_even 70 = .ok (.iload 5, 2) := by decide +kernel
theorem dX12_even_72 : decode cX12_even 72 = .ok (.iadd, 1) := by decide +kernel
theorem dX12_even_73 : decode cX12_even 73 = .ok (.istore 7, 2) := by decide +kernel
theorem dX12_even_75 : decode cX12_even 75 = .ok (.goto (-28), 3) := by decide +kernel
theorem dX12_even_78 : decode cX12_even 78 = .ok (.iload 6, 2) := by decide +kernel
theorem dX12_even_80 : decode cX12_even 80 = .ok (.ireturn, 1) := by decide +kernel
theorem dX12_evenest_0 : decode cX12_evenest 0 = .ok (.aload_n 0, 1) := by decide +kernel
theorem dX12_evenest_1 : decode cX12_evenest 1 = .ok (.iload_n 1, 1) := by decide +kernel
theorem dX12_evenest_2 : decode cX12_evenest 2 = .ok (.iload_n 2, 1) := by decide +kernel
theorem dX12_evenest_3 : decode cX12_evenest 3 = .ok (.iload_n 3, 1) := by decide +kernel
theorem dX12_evenest_4 : decode cX12_evenest 4 = .ok (.invokevirtual 490, 3) := by decide +kernel
theorem dX12_evenest_7 : decode cX12_evenest 7 = .ok (.ifCond .eq 13, 3) := by decide +kernel
theorem dX12_evenest_10 : decode cX12_evenest 10 = .ok (.iload 4, 2) := by decide +kernel
theorem dX12_evenest_12 : decode cX12_evenest 12 = .ok (.iconst 0, 1) := by decide +kernel
theorem dX12_evenest_13 : decode cX12_evenest 13 = .ok (.iconst 1, 1) := by decide +kernel
theorem dX12_evenest_14 : decode cX12_evenest 14 = .ok (.invokestatic 449, 3) := by decide +kernel
theorem dX12_evenest_17 : decode cX12_evenest 17 = .ok (.ifCond .ne 5, 3) := by decide +kernel
theorem dX12_evenest_20 : decode cX12_evenest 20 = .ok (.iconst (-1), 1) := by decide +kernel
theorem dX12_evenest_21 : decode cX12_evenest 21 = .ok (.ireturn, 1) := by decide +kernel
theorem dX12_evenest_22 : decode cX12_evenest 22 = .ok (.aload_n 0, 1) := by decide +kernel
theorem dX12_evenest_23 : decode cX12_evenest 23 = .ok (.iload_n 1, 1) := by decide +kernel
theorem dX12_evenest_24 : decode cX12_evenest 24 = .ok (.iload_n 2, 1) := by decide +kernel
theorem dX12_evenest_25 : decode cX12_evenest 25 = .ok (.iload_n 3, 1) := by decide +kernel
theorem dX12_evenest_26 : decode cX12_evenest 26 = .ok (.invokevirtual 493, 3) := by decide +kernel
theorem dX12_evenest_29 : decode cX12_evenest 29 = .ok (.iconst 0, 1) := by decide +kernel
theorem dX12_evenest_30 : decode cX12_evenest 30 = .ok (.istore 5, 2) := by decide +kernel
theorem dX12_evenest_32 : decode cX12_evenest 32 = .ok (.iload 5, 2) := by decide +kernel
theorem dX12_evenest_34 : decode cX12_evenest 34 = .ok (.aload_n 0, 1) := by decide +kernel
theorem dX12_evenest_35 : decode cX12_evenest 35 = .ok (.getfield 478, 3) := by decide +kernel
theorem dX12_evenest_38 : decode cX12_evenest 38 = .ok (.aload_n 0, 1) := by decide +kernel
theorem dX12_evenest_39 : decode cX12_evenest 39 = .ok (.getfield 475, 3) := by decide +kernel
theorem dX12_evenest_42 : decode cX12_evenest 42 = .ok (.isub, 1) := by decide +kernel
theorem dX12_evenest_43 : decode cX12_evenest 43 = .ok (.if_icmp .gt 60, 3) := by decide +kernel
theorem dX12_evenest_46 : decode cX12_evenest 46 = .ok (.aload_n 0, 1) := by decide +kernel
theorem dX12_evenest_47 : decode cX12_evenest 47 = .ok (.getfield 475, 3) := by decide +kernel
theorem dX12_evenest_50 : decode cX12_evenest 50 = .ok (.istore 6, 2) := by decide +kernel
theorem dX12_evenest_52 : decode cX12_evenest 52 = .ok (.iload 6, 2) := by decide +kernel
theorem dX12_evenest_54 : decode cX12_evenest 54 = .ok (.iload 5, 2) := by decide +kernel
theorem dX12_evenest_56 : decode cX12_evenest 56 = .ok (.iadd, 1) := by decide +kernel
theorem dX12_evenest_57 : decode cX12_evenest 57 = .ok (.aload_n 0, 1) := by decide +kernel
theorem dX12_evenest_58 : decode cX12_evenest 58 = .ok (.getfield 478, 3) := by decide +kernel
theorem dX12_evenest_61 : decode cX12_evenest 61 = .ok (.if_icmp .gt 36, 3) := by decide +kernel
theorem dX12_evenest_64 : decode cX12_evenest 64 = .ok (.aload_n 0, 1) := by decide +kernel
theorem dX12_evenest_65 : decode cX12_evenest 65 = .ok (.iload 6, 2) := by decide +kernel
theorem dX12_evenest_67 : decode cX12_evenest 67 = .ok (.iload 6, 2) := by decide +kernel
theorem dX12_evenest_69 : decode cX12_evenest 69 = .ok (.iload 5, 2) := by decide +kernel
theorem dX12_evenest_71 : decode cX12_evenest 71 = .ok (.iadd, 1) := by decide +kernel
theorem dX12_evenest_72 : decode cX12_evenest 72 = .ok (.invokevirtual 526, 3) := by decide +kernel
theorem dX12_evenest_75 : decode cX12_evenest 75 = .ok (.ifCond .eq 16, 3) := by decide +kernel
theorem dX12_evenest_78 : decode cX12_evenest 78 = .ok (.iload 4, 2) := by decide +kernel
theorem dX12_evenest_80 : decode cX12_evenest 80 = .ok (.ifCond .ne 8, 3) := by decide +kernel
theorem dX12_evenest_83 : decode cX12_evenest 83 = .ok (.iload 5, 2) := by decide +kernel
theorem dX12_evenest_85 : decode cX12_evenest 85 = .ok (.goto 5, 3) := by decide +kernel
theorem dX12_evenest_88 : decode cX12_evenest 88 = .ok (.iload 6, 2) := by decide +kernel
theorem dX12_evenest_90 : decode cX12_evenest 90 = .ok (.ireturn, 1) := by decide +kernel
theorem dX12_evenest_91 : decode cX12_evenest 91 = .ok (.iinc 6 1, 3) := by decide +kernel
theorem dX12_evenest_94 : decode cX12_evenest 94 = .ok (.goto (-42), 3) := by decide +kernel
theorem dX12_evenest_97 : decode cX12_evenest 97 = .ok (.iinc 5 1, 3) := by decide +kernel
theorem dX12_evenest_100 : decode cX12_evenest 100 = .ok (.goto (-68), 3) := by decide +kernel
theorem dX12_evenest_103 : decode cX12_evenest 103 = .ok (.iconst (-1), 1) := by decide +kernel
theorem dX12_evenest_104 : decode cX12_evenest 104 = .ok (.ireturn, 1) := by decide +kernel
theorem dX12_evens_0 : decode cX12_evens 0 = .ok (.aload_n 0, 1) := by decide +kernel
theorem dX12_evens_1 : decode cX12_evens 1 = .ok (.iconst 0, 1) := by decide +kernel
theorem dX12_evens_2 : decode cX12_evens 2 = .ok (.putfield 446, 3) := by decide +kernel
theorem dX12_evens_5 : decode cX12_evens 5 = .ok (.aload_n 0, 1) := by decide +kernel
theorem dX12_evens_6 : decode cX12_evens 6 = .ok (.iload_n 1, 1) := by decide +kernel
theorem dX12_evens_7 : decode cX12_evens 7 = .ok (.iload_n 2, 1) := by decide +kernel
theorem dX12_evens_8 : decode cX12_evens 8 = .ok (.iload_n 3, 1) := by decide +kernel
theorem dX12_evens_9 : decode cX12_evens 9 = .ok (.invokevirtual 490, 3) := by decide +kernel
theorem dX12_evens_12 : decode cX12_evens 12 = .ok (.ifCond .ne 5, 3) := by decide +kernel
theorem dX12_evens_15 : decode cX12_evens 15 = .ok (.iconst (-1), 1) := by decide +kernel
theorem dX12_evens_16 : decode cX12_evens 16 = .ok (.ireturn, 1) := by decide +kernel
theorem dX12_evens_17 : decode cX12_evens 17 = .ok (.aload_n 0, 1) := by decide +kernel
theorem dX12_evens_18 : decode cX12_evens 18 = .ok (.iload_n 1, 1) := by decide +kernel
theorem dX12_evens_19 : decode cX12_evens 19 = .ok (.iload_n 2, 1) := by decide +kernel
theorem dX12_evens_20 : decode cX12_evens 20 = .ok (.iload_n 3, 1) := by decide +kernel
theorem dX12_evens_21 : decode cX12_evens 21 = .ok (.invokevirtual 493, 3) := by decide +kernel
theorem dX12_evens_24 : decode cX12_evens 24 = .ok (.aload_n 0, 1) := by decide +kernel
theorem dX12_evens_25 : decode cX12_evens 25 = .ok (.getfield 475, 3) := by decide +kernel
theorem dX12_evens_28 : decode cX12_evens 28 = .ok (.istore 4, 2) := by decide +kernel
theorem dX12_evens_30 : decode cX12_evens 30 = .ok (.iload 4, 2) := by decide +kernel
theorem dX12_evens_32 : decode cX12_evens 32 = .ok (.aload_n 0, 1) := by decide +kernel
theorem dX12_evens_33 : decode cX12_evens 33 = .ok (.getfield 478, 3) := by decide +kernel
theorem dX12_evens_36 : decode cX12_evens 36 = .ok (.if_icmp .gt 56, 3) := by decide +kernel
theorem dX12_evens_39 : decode cX12_evens 39 = .ok (.iconst 0, 1) := by decide +kernel
theorem dX12_evens_40 : decode cX12_evens 40 = .ok (.istore 5, 2) := by decide +kernel
theorem dX12_evens_42 : decode cX12_evens 42 = .ok (.iconst 0, 1) := by decide +kernel
theorem dX12_evens_43 : decode cX12_evens 43 = .ok (.istore 6, 2) := by decide +kernel
theorem dX12_evens_45 : decode cX12_evens 45 = .ok (.iload 6, 2) := by decide +kernel
theorem dX12_evens_47 : decode cX12_evens 47 = .ok (.aload_n 0, 1) := by decide +kernel
theorem dX12_evens_48 : decode cX12_evens 48 = .ok (.getfield 478, 3) := by decide +kernel
theorem dX12_evens_51 : decode cX12_evens 51 = .ok (.if_icmp .ge 24, 3) := by decide +kernel
theorem dX12_evens_54 : decode cX12_evens 54 = .ok (.iload 5, 2) := by decide +kernel
theorem dX12_evens_56 : decode cX12_evens 56 = .ok (.ifCond .ne 19, 3) := by decide +kernel
theorem dX12_evens_59 : decode cX12_evens 59 = .ok (.aload_n 0, 1) := by decide +kernel
theorem dX12_evens_60 : decode cX12_evens 60 = .ok (.iload 6, 2) := by decide +kernel
theorem dX12_evens_62 : decode cX12_evens 62 = .ok (.iload 4, 2) := by decide +kernel
theorem dX12_evens_64 : decode cX12_evens 64 = .ok (.invokevirtual 529, 3) := by decide +kernel
theorem dX12_evens_67 : decode cX12_evens 67 = .ok (.istore 5, 2) := by decide +kernel
theorem dX12_evens_69 : decode cX12_evens 69 = .ok (.iinc 6 1, 3) := by decide +kernel
theorem dX12_evens_72 : decode cX12_evens 72 = .ok (.goto (-27), 3) := by decide +kernel
theorem dX12_evens_75 : decode cX12_evens 75 = .ok (.iload 5, 2) := by decide +kernel
theorem dX12_evens_77 : decode cX12_evens 77 = .ok (.ifCond .eq 9, 3) := by decide +kernel
theorem dX12_evens_80 : decode cX12_evens 80 = .ok (.aload_n 0, 1) := by decide +kernel
theorem dX12_evens_81 : decode cX12_evens 81 = .ok (.iload 4, 2) := by decide +kernel
theorem dX12_evens_83 : decode cX12_evens 83 = .ok (.invokevirtual 512, 3) := by decide +kernel
theorem dX12_evens_86 : decode cX12_evens 86 = .ok (.iinc 4 1, 3) := by decide +kernel
theorem dX12_evens_89 : decode cX12_evens 89 = .ok (.goto (-59), 3) := by decide +kernel
theorem dX12_evens_92 : decode cX12_evens 92 = .ok (.aload_n 0, 1) := by decide +kernel
theorem dX12_evens_93 : decode cX12_evens 93 = .ok (.getfield 446, 3) := by decide +kernel
theorem dX12_evens_96 : decode cX12_evens 96 = .ok (.ireturn, 1) := by decide +kernel
theorem dX12_ways_0 : decode cX12_ways 0 = .ok (.aload_n 0, 1) := by decide +kernel
theorem dX12_ways_1 : decode cX12_ways 1 = .ok (.iload_n 1, 1) := by decide +kernel
theorem dX12_ways_2 : decode cX12_ways 2 = .ok (.iload_n 2, 1) := by decide +kernel
theorem dX12_ways_3 : decode cX12_ways 3 = .ok (.iload_n 3, 1) := by decide +kernel
theorem dX12_ways_4 : decode cX12_ways 4 = .ok (.invokevirtual 490, 3) := by decide +kernel
theorem dX12_ways_7 : decode cX12_ways 7 = .ok (.ifCond .eq 14, 3) := by decide +kernel
theorem dX12_ways_10 : decode cX12_ways 10 = .ok (.iload 4, 2) := by decide +kernel
theorem dX12_ways_12 : decode cX12_ways 12 = .ok (.iconst 1, 1) := by decide +kernel
theorem dX12_ways_13 : decode cX12_ways 13 = .ok (.bipush 60, 2) := by decide +kernel
theorem dX12_ways_15 : decode cX12_ways 15 = .ok (.invokestatic 449, 3) := by decide +kernel
theorem dX12_ways_18 : decode cX12_ways 18 = .ok (.ifCond .ne 7, 3) := by decide +kernel
theorem dX12_ways_21 : decode cX12_ways 21 = .ok (.ldc2_w 517, 3) := by decide +kernel
theorem dX12_ways_24 : decode cX12_ways 24 = .ok (.lreturn, 1) := by decide +kernel
theorem dX12_ways_25 : decode cX12_ways 25 = .ok (.aload_n 0, 1) := by decide +kernel
theorem dX12_ways_26 : decode cX12_ways 26 = .ok (.iload_n 1, 1) := by decide +kernel
theorem dX12_ways_27 : decode cX12_ways 27 = .ok (.iload_n 2, 1) := by decide +kernel
theorem dX12_ways_28 : decode cX12_ways 28 = .ok (.iload_n 3, 1) := by decide +kernel
theorem dX12_ways_29 : decode cX12_ways 29 = .ok (.invokevirtual 493, 3) := by decide +kernel
theorem dX12_ways_32 : decode cX12_ways 32 = .ok (.iconst 0, 1) := by decide +kernel
theorem dX12_ways_33 : decode cX12_ways 33 = .ok (.istore 5, 2) := by decide +kernel
theorem dX12_ways_35 : decode cX12_ways 35 = .ok (.iload 5, 2) := by decide +kernel
theorem dX12_ways_37 : decode cX12_ways 37 = .ok (.sipush 1024, 3) := by decide +kernel
theorem dX12_ways_40 : decode cX12_ways 40 = .ok (.if_icmp .ge 61, 3) := by decide +kernel
theorem dX12_ways_43 : decode cX12_ways 43 = .ok (.aload_n 0, 1) := by decide +kernel
theorem dX12_ways_44 : decode cX12_ways 44 = .ok (.getfield 124, 3) := by decide +kernel
theorem dX12_ways_47 : decode cX12_ways 47 = .ok (.iload 5, 2) := by decide +kernel
theorem dX12_ways_49 : decode cX12_ways 49 = .ok (.iload 5, 2) := by decide +kernel
theorem dX12_ways_51 : decode cX12_ways 51 = .ok (.iconst 2, 1) := by decide +kernel
theorem dX12_ways_52 : decode cX12_ways 52 = .ok (.irem, 1) := by decide +kernel
theorem dX12_ways_53 : decode cX12_ways 53 = .ok (.ifCond .ne 40, 3) := by decide +kernel
theorem dX12_ways_56 : decode cX12_ways 56 = .ok (.iload 5, 2) := by decide +kernel
theorem dX12_ways_58 : decode cX12_ways 58 = .ok (.iconst 2, 1) := by decide +kernel
theorem dX12_ways_59 : decode cX12_ways 59 = .ok (.idiv, 1) := by decide +kernel
theorem dX12_ways_60 : decode cX12_ways 60 = .ok (.aload_n 0, 1) := by decide +kernel
theorem dX12_ways_61 : decode cX12_ways 61 = .ok (.getfield 478, 3) := by decide +kernel
theorem dX12_ways_64 : decode cX12_ways 64 = .ok (.if_icmp .ge 29, 3) := by decide +kernel
theorem dX12_ways_67 : decode cX12_ways 67 = .ok (.iload 5, 2) := by decide +kernel
theorem dX12_ways_69 : decode cX12_ways 69 = .ok (.iconst 2, 1) := by decide +kernel
theorem dX12_ways_70 : decode cX12_ways 70 = .ok (.idiv, 1) := by decide +kernel
theorem dX12_ways_71 : decode cX12_ways 71 = .ok (.sipush 400, 3) := by decide +kernel
theorem dX12_ways_74 : decode cX12_ways 74 = .ok (.if_icmp .ge 19, 3) := by decide +kernel
theorem dX12_ways_77 : decode cX12_ways 77 = .ok (.aload_n 0, 1) := by decide +kernel
theorem dX12_ways_78 : decode cX12_ways 78 = .ok (.getfield 115, 3) := by decide +kernel
theorem dX12_ways_81 : decode cX12_ways 81 = .ok (.iload 5, 2) := by decide +kernel
theorem dX12_ways_83 : decode cX12_ways 83 = .ok (.iconst 2, 1) := by decide +kernel
theorem dX12_ways_84 : decode cX12_ways 84 = .ok (.idiv, 1) := by decide +kernel
theorem dX12_ways_85 : decode cX12_ways 85 = .ok (.baload, 1) := by decide +kernel
theorem dX12_ways_86 : decode cX12_ways 86 = .ok (.ifCond .eq 7, 3) := by decide +kernel
theorem dX12_ways_89 : decode cX12_ways 89 = .ok (.lconst 1, 1) := by decide +kernel
theorem dX12_ways_90 : decode cX12_ways 90 = .ok (.goto 4, 3) := by decide +kernel
theorem dX12_ways_93 : decode cX12_ways 93 = .ok (.lconst 0, 1) := by decide +kernel
theorem dX12_ways_94 : decode cX12_ways 94 = .ok (.lastore, 1) := by decide +kernel
theorem dX12_ways_95 : decode cX12_ways 95 = .ok (.iinc 5 1, 3) := by decide +kernel
theorem dX12_ways_98 : decode cX12_ways 98 = .ok (.goto (-63), 3) := by decide +kernel
theorem dX12_ways_101 : decode cX12_ways 101 = .ok (.iconst 1, 1) := by decide +kernel
theorem dX12_ways_102 : decode cX12_ways 102 = .ok (.istore 5, 2) := by decide +kernel
theorem dX12_ways_104 : decode cX12_ways 104 = .ok (.iload 5, 2) := by decide +kernel
theorem dX12_ways_106 : decode cX12_ways 106 = .ok (.iload 4, 2) := by decide +kernel
theorem dX12_ways_108 : decode cX12_ways 108 = .ok (.if_icmp .ge 111, 3) := by decide +kernel
theorem dX12_ways_111 : decode cX12_ways 111 = .ok (.iconst 0, 1) := by decide +kernel
theorem dX12_ways_112 : decode cX12_ways 112 = .ok (.istore 6, 2) := by decide +kernel
theorem dX12_ways_114 : decode cX12_ways 114 = .ok (.iload 6, 2) := by decide +kernel
theorem dX12_ways_116 : decode cX12_ways 116 = .ok (.sipush 1024, 3) := by decide +kernel
theorem dX12_ways_119 : decode cX12_ways 119 = .ok (.if_icmp .ge 17, 3) := by decide +kernel
theorem dX12_ways_122 : decode cX12_ways 122 = .ok (.aload_n 0, 1) := by decide +kernel
theorem dX12_ways_123 : decode cX12_ways 123 = .ok (.getfield 127, 3) := by decide +kernel
theorem dX12_ways_126 : decode cX12_ways 126 = .ok (.iload 6, 2) := by decide +kernel
theorem dX12_ways_128 : decode cX12_ways 128 = .ok (.lconst 0, 1) := by decide +kernel
theorem dX12_ways_129 : decode cX12_ways 129 = .ok (.lastore, 1) := by decide +kernel
theorem dX12_ways_130 : decode cX12_ways 130 = .ok (.iinc 6 1, 3) := by decide +kernel
theorem dX12_ways_133 : decode cX12_ways 133 = .ok (.goto (-19), 3) := by decide +kernel
theorem dX12_ways_136 : decode cX12_ways 136 = .ok (.iconst 0, 1) := by decide +kernel
theorem dX12_ways_137 : decode cX12_ways 137 = .ok (.istore 6, 2) := by decide +kernel
theorem dX12_ways_139 : decode cX12_ways 139 = .ok (.iload 6, 2) := by decide +kernel
theorem dX12_ways_141 : decode cX12_ways 141 = .ok (.sipush 800, 3) := by decide +kernel
theorem dX12_ways_144 : decode cX12_ways 144 = .ok (.if_icmp .ge 38, 3) := by decide +kernel
theorem dX12_ways_147 : decode cX12_ways 147 = .ok (.aload_n 0, 1) := by decide +kernel
theorem dX12_ways_148 : decode cX12_ways 148 = .ok (.getfield 124, 3) := by decide +kernel
theorem dX12_ways_151 : decode cX12_ways 151 = .ok (.iload 6, 2) := by decide +kernel
theorem dX12_ways_153 : decode cX12_ways 153 = .ok (.laload, 1) := by decide +kernel
theorem dX12_ways_154 : decode cX12_ways 154 = .ok (.lconst 0, 1) := by decide +kernel
theorem dX12_ways_155 : decode cX12_ways 155 = .ok (.lcmp, 1) := by decide +kernel
theorem dX12_ways_156 : decode cX12_ways 156 = .ok (.ifCond .le 20, 3) := by decide +kernel
theorem dX12_ways_159 : decode cX12_ways 159 = .ok (.aload_n 0, 1) := by decide +kernel
theorem dX12_ways_160 : decode cX12_ways 160 = .ok (.iload 6, 2) := by decide +kernel
theorem dX12_ways_162 : decode cX12_ways 162 = .ok (.iconst 2, 1) := by decide +kernel
theorem dX12_ways_163 : decode cX12_ways 163 = .ok (.idiv, 1) := by decide +kernel
theorem dX12_ways_164 : decode cX12_ways 164 = .ok (.invokevirtual 499, 3) := by decide +kernel
theorem dX12_ways_167 : decode cX12_ways 167 = .ok (.ifCond .ne 9, 3) := by decide +kernel
theorem dX12_ways_170 : decode cX12_ways 170 = .ok (.aload_n 0, 1) := by decide +kernel
theorem dX12_ways_171 : decode cX12_ways 171 = .ok (.iload 6, 2) := by decide +kernel
theorem dX12_ways_173 : decode cX12_ways 173 = .ok (.invokevirtual 519, 3) := by decide +kernel
theorem dX12_ways_176 : decode cX12_ways 176 = .ok (.iinc 6 1, 3) := by decide +kernel
theorem dX12_ways_179 : decode cX12_ways 179 = .ok (.goto (-40), 3) := by decide +kernel
theorem dX12_ways_182 : decode cX12_ways 182 = .ok (.iconst 0, 1) := by decide +kernel
theorem dX12_ways_183 : decode cX12_ways 183 = .ok (.istore 6, 2) := by decide +kernel
theorem dX12_ways_185 : decode cX12_ways 185 = .ok (.iload 6, 2) := by decide +kernel
theorem dX12_ways_187 : decode cX12_ways 187 = .ok (.sipush 1024, 3) := by decide +kernel
theorem dX12_ways_190 : decode cX12_ways 190 = .ok (.if_icmp .ge 23, 3) := by decide +kernel
theorem dX12_ways_193 : decode cX12_ways 193 = .ok (.aload_n 0, 1) := by decide +kernel
theorem dX12_ways_194 : decode cX12_ways 194 = .ok (.getfield 124, 3) := by decide +kernel
theorem dX12_ways_197 : decode cX12_ways 197 = .ok (.iload 6, 2) := by decide +kernel
theorem dX12_ways_199 : decode cX12_ways 199 = .ok (.aload_n 0, 1) := by decide +kernel
theorem dX12_ways_200 : decode cX12_ways 200 = .ok (.getfield 127, 3) := by decide +kernel
theorem dX12_ways_203 : decode cX12_ways 203 = .ok (.iload 6, 2) := by decide +kernel
theorem dX12_ways_205 : decode cX12_ways 205 = .ok (.laload, 1) := by decide +kernel
theorem dX12_ways_206 : decode cX12_ways 206 = .ok (.lastore, 1) := by decide +kernel
theorem dX12_ways_207 : decode cX12_ways 207 = .ok (.iinc 6 1, 3) := by decide +kernel
theorem dX12_ways_210 : decode cX12_ways 210 = .ok (.goto (-25), 3) := by decide +kernel
theorem dX12_ways_213 : decode cX12_ways 213 = .ok (.iinc 5 1, 3) := by decide +kernel
theorem dX12_ways_216 : decode cX12_ways 216 = .ok (.goto (-112), 3) := by decide +kernel
theorem dX12_ways_219 : decode cX12_ways 219 = .ok (.lconst 0, 1) := by decide +kernel
theorem dX12_ways_220 : decode cX12_ways 220 = .ok (.lstore 5, 2) := by decide +kernel
theorem dX12_ways_222 : decode cX12_ways 222 = .ok (.iconst 0, 1) := by decide +kernel
theorem dX12_ways_223 : decode cX12_ways 223 = .ok (.istore 7, 2) := by decide +kernel
theorem dX12_ways_225 : decode cX12_ways 225 = .ok (.iload 7, 2) := by decide +kernel
theorem dX12_ways_227 : decode cX12_ways 227 = .ok (.sipush 800, 3) := by decide +kernel
theorem dX12_ways_230 : decode cX12_ways 230 = .ok (.if_icmp .ge 35, 3) := by decide +kernel
theorem dX12_ways_233 : decode cX12_ways 233 = .ok (.aload_n 0, 1) := by decide +kernel
theorem dX12_ways_234 : decode cX12_ways 234 = .ok (.iload 7, 2) := by decide +kernel
theorem dX12_ways_236 : decode cX12_ways 236 = .ok (.iconst 2, 1) := by decide +kernel
theorem dX12_ways_237 : decode cX12_ways 237 = .ok (.idiv, 1) := by decide +kernel
theorem dX12_ways_238 : decode cX12_ways 238 = .ok (.invokevirtual 499, 3) := by decide +kernel
theorem dX12_ways_241 : decode cX12_ways 241 = .ok (.ifCond .eq 18, 3) := by decide +kernel
theorem dX12_ways_244 : decode cX12_ways 244 = .ok (.lload 5, 2) := by decide +kernel
theorem dX12_ways_246 : decode cX12_ways 246 = .ok (.aload_n 0, 1) := by decide +kernel
theorem dX12_ways_247 : decode cX12_ways 247 = .ok (.getfield 124, 3) := by decide +kernel
theorem dX12_ways_250 : decode cX12_ways 250 = .ok (.iload 7, 2) := by decide +kernel
theorem dX12_ways_252 : decode cX12_ways 252 = .ok (.laload, 1) := by decide +kernel
theorem dX12_ways_253 : decode cX12_ways 253 = .ok (.ladd, 1) := by decide +kernel
theorem dX12_ways_254 : decode cX12_ways 254 = .ok (.invokestatic 522, 3) := by decide +kernel
theorem dX12_ways_257 : decode cX12_ways 257 = .ok (.lstore 5, 2) := by decide +kernel
theorem dX12_ways_259 : decode cX12_ways 259 = .ok (.iinc 7 1, 3) := by decide +kernel
theorem dX12_ways_262 : decode cX12_ways 262 = .ok (.goto (-37), 3) := by decide +kernel
theorem dX12_ways_265 : decode cX12_ways 265 = .ok (.lload 5, 2) := by decide +kernel
theorem dX12_ways_267 : decode cX12_ways 267 = .ok (.lreturn, 1) := by decide +kernel
set_option maxHeartbeats 4000000 in
set_option maxRecDepth 100000 in
theorem n_comesToEnd (l : Launch) (D : va_G) (k : KT) (A : Nat → Prop) (a : Nat → Nat) (z : SK) (G : GS) (p0 : Int32) (p1 : Int32) (ha_p0 : 0 ≤ p0.toInt ∧ p0.toInt ≤ 60) (ha_p1 : 1 ≤ p1.toInt ∧ p1.toInt ≤ 60) : Met l yX12_comesToEnd (WS yX12_comesToEnd cX12_comesToEnd 4 (some .boolean)) ({ frames := 2, cells := 0, slots := 0, locals := 42 }) (va_Pc [.ref (a 66), .int p0, .int p1] (cW D k A a z G)) (va_Qi (fun (r : Int32) (G1 : GS) => Q_comesToEnd p0 p1 G r G1) (fun (G1 : GS) t => Wd D k A a G1 t.heap) A) 0 0 A := by
  refine Met.ofW (cc := cX12_comesToEnd) (maxL := 4) (ret := (some .boolean)) (by decide) rfl ?_
  intro p e s m args below meth c s₁ B hml hv
  obtain ⟨rfl, hW, hB_G, hK, hZ⟩ := hv
  have hx := B.exec
  have hb := B.bytes
  have hr := B.returns
  have hts := atoms_spec (ws := WS yX12_comesToEnd cX12_comesToEnd 4 (some .boolean)) B.pre
  have hgd : ∀ w ∈ gd, w ∈ WS yX12_comesToEnd cX12_comesToEnd 4 (some .boolean) := fun w h => List.mem_cons_of_mem _ h
  have hg : ∀ w ∈ gd, w.before _ s = true := fun w h => hts w (hgd w h)
  have hown : s.vm.findClass RX12 = some m.cls := findClass_of_methodNamed B.named
  have hS : va_S A s.heap s.heap [] := va_S.rf
  have hF : Fr [] [] G G := Fr.rf
  have hl := lv_entry ([.ref (a 66), .int p0, .int p1]) (n := 4) (Nat.le_of_ble_eq_true rfl)
  rw [lg_entry_eq]
  generalize (lg_sl ([.ref (a 66), .int p0, .int p1]) ++ List.replicate (4 - (lg_sl ([.ref (a 66), .int p0, .int p1])).length) Slot.unset).toArray = ls at hl ⊢
  have hl : lv_has ls 4 [(0, .ref (a 66)), (1, .int p0), (2, .int p1)] := hl
  refine lv_iload_n hx hb dX12_comesToEnd_0 rfl (lv_at hl 1 rfl) ?_
  refine lv_istore_n (lv' := [(3, .int p0), (0, .ref (a 66)), (1, .int p0), (2, .int p1)]) hx hb dX12_comesToEnd_1 rfl hl (by decide) rfl (fun ls hl => ?_)
  refine loop_N (Inv := fun n H locs ls => ∃ (G_1 : GS) (x_5 : Int32), (n : Int) = 511 - x_5.toInt ∧ (0 ≤ x_5.toInt ∧ x_5.toInt ≤ 511) ∧ Rc (St_n_comesToEnd_1 p1) (p0, G) (x_5, G_1) ∧ Wd D k A a G_1 H ∧ Bd G_1 ∧ Fr [] [] G G_1 ∧ Fr [] [] G G_1 ∧ va_S A s.heap H locs ∧ lv_has ls 4 [(3, .int x_5), (0, .ref (a 66)), (2, .int p1)]) (fun n_4 H locs ls ih_3 hI => ?_) (511 - p0.toInt : Int).toNat ⟨G, p0, (Int.toNat_of_nonneg (by omega)), ⟨by omega, by omega⟩, Rc.rf, hW, hB_G, hF, Fr.rf, hS, lv_sub hl [0, 1, 3] rfl⟩
  obtain ⟨G_1, x_5, hn_8, f_7, hX_6, hW, hB_G_1, hF, hq_2, hS, hl⟩ := hI
  refine lv_aload_n hx hb dX12_comesToEnd_2 rfl (lv_at hl 1 rfl) ?_
  refine S_getR (n := 98) (C := RX12) (T := TX12) (N := 89) hx hb hg iX12 hown hK hW kd_66 rfl 58 (by decide) (hg (Cond.fieldLink RX12 115 "SlabWalkModel" "lawful" "[Z") m1372) (fun _ h9 => h9) rfl dX12_comesToEnd_3 ?_
  refine lv_iload_n hx hb dX12_comesToEnd_6 rfl (lv_at hl 0 rfl) ?_
  refine S_zald hx hb hK hW kd_98 (vin (by omega) (by omega)) dX12_comesToEnd_7 (fun y_9 ey_9 => ?_)
  have ty_9 := hB_G_1.law ey_9
  refine lv_if_eq (tgt := 26) hx hb dX12_comesToEnd_8 (by decide) (fun c_10 => ?_) (fun c_10 => ?_)
  · have c_10 : y_9.toInt = 0 := xI_eq rfl rfl c_10
    refine lv_aload_n hx hb dX12_comesToEnd_26 rfl (lv_at hl 1 rfl) ?_
    refine S_getR (n := 98) (C := RX12) (T := TX12) (N := 89) hx hb hg iX12 hown hK hW kd_66 rfl 58 (by decide) (hg (Cond.fieldLink RX12 115 "SlabWalkModel" "lawful" "[Z") m1372) (fun _ h9 => h9) rfl dX12_comesToEnd_27 ?_
    refine lv_iload_n hx hb dX12_comesToEnd_30 rfl (lv_at hl 0 rfl) ?_
    refine S_zald hx hb hK hW kd_98 (vin (by omega) (by omega)) dX12_comesToEnd_31 (fun y_11 ey_11 => ?_)
    have ty_11 := hB_G_1.law ey_11
    exact W.zret (v := y_11) hx hb hr (nar_z (by omega) (by omega)) (fun t ht _ => ⟨⟨y_11, G_1, rfl, (Q_comesToEnd_mk ⟨hB_G_1, hF, ⟨by omega, by omega⟩, ⟨x_5, G_1, hX_6, f_7, hB_G_1, hq_2, ⟨y_9, ey_9, (Or.inl ⟨c_10, ⟨y_11, ey_11, ⟨rfl, rfl⟩⟩⟩)⟩⟩⟩), wd_t ht hW⟩, hS.F ht⟩) hS.2.2 dX12_comesToEnd_32
  · have c_10 : y_9.toInt ≠ 0 := xI_ne rfl rfl c_10
    refine lv_aload_n hx hb dX12_comesToEnd_11 rfl (lv_at hl 1 rfl) ?_
    refine lv_iload_n hx hb dX12_comesToEnd_12 rfl (lv_at hl 0 rfl) ?_
    have b_12 : 0 ≤ (G.1 66 59).toInt ∧ (G.1 66 59).toInt ≤ 400 := hB_G.i 66 59 rfl rfl
    have g_13 : (G_1.1 66 59).toInt = (G.1 66 59).toInt := by rw [show G_1.1 66 59 = (G.1 66 59) from (hq_2.i 66 59 (by decide) (by decide))]
    have b_14 : 0 ≤ (G.1 66 60).toInt ∧ (G.1 66 60).toInt ≤ 12 := hB_G.i 66 60 rfl rfl
    have g_15 : (G_1.1 66 60).toInt = (G.1 66 60).toInt := by rw [show G_1.1 66 60 = (G.1 66 60) from (hq_2.i 66 60 (by decide) (by decide))]
    have b_16 : 0 ≤ (G.1 66 62).toInt ∧ (G.1 66 62).toInt ≤ 60 := hB_G.i 66 62 rfl rfl
    have g_17 : (G_1.1 66 62).toInt = (G.1 66 62).toInt := by rw [show G_1.1 66 62 = (G.1 66 62) from (hq_2.i 66 62 (by decide) (by decide))]
    refine S_calli (va_runV (As := [.int x_5]) (rest := []) ⟨hx, hb, hml, hown, hts⟩ (n_isEnd l D k A a z G_1 x_5 ⟨by omega, by omega⟩) (cwV 1 hts (gd_V hgd m1854 m1856 m95 m131 m1857) rfl rfl rfl (by decide +kernel) ⟨Nat.le_of_ble_eq_true rfl, Nat.le_of_ble_eq_true rfl⟩) (pre_V hW hB_G_1 hK hZ hS kd_66 rfl) rfl rfl hl.1 rfl (lv_room (Nat.le_of_ble_eq_true rfl)) dX12_comesToEnd_13 ⟨Nat.le_of_ble_eq_true rfl, Nat.le_of_ble_eq_true rfl⟩) hS (fun r_18 G_19 H locs hpo hW hS => ?_)
    have hX_22 : Q_isEnd x_5 G_1 r_18 G_19 := hpo
    obtain ⟨hB_G_19, hq_20, f_23, hp_21, -⟩ := hpo
    have hF := hF.call hq_20 (by decide) (by decide)
    refine lv_if_ne (tgt := 26) hx hb dX12_comesToEnd_16 (by decide) (fun c_24 => ?_) (fun c_24 => ?_)
    · have c_24 : r_18.toInt ≠ 0 := xI_ne rfl rfl c_24
      refine lv_aload_n hx hb dX12_comesToEnd_26 rfl (lv_at hl 1 rfl) ?_
      refine S_getR (n := 98) (C := RX12) (T := TX12) (N := 89) hx hb hg iX12 hown hK hW kd_66 rfl 58 (by decide) (hg (Cond.fieldLink RX12 115 "SlabWalkModel" "lawful" "[Z") m1372) (fun _ h9 => h9) rfl dX12_comesToEnd_27 ?_
      refine lv_iload_n hx hb dX12_comesToEnd_30 rfl (lv_at hl 0 rfl) ?_
      refine S_zald hx hb hK hW kd_98 (vin (by omega) (by omega)) dX12_comesToEnd_31 (fun y_25 ey_25 => ?_)
      have ty_25 := hB_G_19.law ey_25
      exact W.zret (v := y_25) hx hb hr (nar_z (by omega) (by omega)) (fun t ht _ => ⟨⟨y_25, G_19, rfl, (Q_comesToEnd_mk ⟨hB_G_19, hF, ⟨by omega, by omega⟩, ⟨x_5, G_1, hX_6, f_7, hB_G_1, hq_2, ⟨y_9, ey_9, (Or.inr ⟨c_10, ⟨r_18, G_19, hX_22, ⟨c_24, ⟨y_25, ey_25, ⟨rfl, rfl⟩⟩⟩⟩⟩)⟩⟩⟩), wd_t ht hW⟩, hS.F ht⟩) hS.2.2 dX12_comesToEnd_32
    · have c_24 : r_18.toInt = 0 := xI_eq rfl rfl c_24
      refine lv_iload_n hx hb dX12_comesToEnd_19 rfl (lv_at hl 0 rfl) ?_
      refine lv_iload_n hx hb dX12_comesToEnd_20 rfl (lv_at hl 2 rfl) ?_
      refine lv_iadd hx hb dX12_comesToEnd_21 ?_
      refine lv_topi (fun y_26 ey_26 => ?_)
      have ty_26 : y_26.toInt = x_5.toInt + p1.toInt := xI_add rfl rfl ey_26 (by omega) (by omega)
      refine lv_istore_n (lv' := [(3, .int y_26), (0, .ref (a 66)), (2, .int p1)]) hx hb dX12_comesToEnd_22 rfl hl (by decide) rfl (fun ls hl => ?_)
      refine lv_goto (tgt := 2) hx hb dX12_comesToEnd_23 (by decide) ?_
      exact ih_3 (511 - y_26.toInt : Int).toNat (by omega) _ _ _ ⟨G_19, y_26, (Int.toNat_of_nonneg (by omega)), ⟨by omega, by omega⟩, (hX_6.st (St_n_comesToEnd_1_mk ⟨x_5, G_1, y_26, G_19, rfl, rfl, f_7, hB_G_1, ⟨y_9, ey_9, ⟨c_10, ⟨r_18, G_19, hX_22, ⟨c_24, ⟨y_26, ty_26, ⟨rfl, rfl⟩⟩⟩⟩⟩⟩⟩)), hW, hB_G_19, hF, ((Fr.rf.call hq_2 (by decide) (by decide)).call hq_20 (by decide) (by decide)), hS, lv_sub hl [0, 1, 2] rfl⟩

set_option maxHeartbeats 4000000 in
set_option maxRecDepth 100000 in
theorem n_even (l : Launch) (D : va_G) (k : KT) (A : Nat → Prop) (a : Nat → Nat) (z : SK) (G : GS) (p0 : Int32) (p1 : Int32) (p2 : Int32) (p3 : Int32) (p4 : Int32) (hP9 : gP G = 1) : Met l yX12_even (WS yX12_even cX12_even 8 (some .int)) ({ frames := 5, cells := 0, slots := 0, locals := 117 }) (va_Pc [.ref (a 66), .int p0, .int p1, .int p2, .int p3, .int p4] (cW D k A a z G)) (va_Qi (fun (r : Int32) (G1 : GS) => Q_even p0 p1 p2 p3 p4 G r G1) (fun (G1 : GS) t => Wd D k A a G1 t.heap) A) 0 0 A := by
  refine Met.ofW (cc := cX12_even) (maxL := 8) (ret := (some .int)) (by decide) rfl ?_
  intro p e s m args below meth c s₁ B hml hv
  obtain ⟨rfl, hW, hB_G, hK, hZ⟩ := hv
  have hx := B.exec
  have hb := B.bytes
  have hr := B.returns
  have hts := atoms_spec (ws := WS yX12_even cX12_even 8 (some .int)) B.pre
  have hgd : ∀ w ∈ gd, w ∈ WS yX12_even cX12_even 8 (some .int) := fun w h => List.mem_cons_of_mem _ h
  have hg : ∀ w ∈ gd, w.before _ s = true := fun w h => hts w (hgd w h)
  have hown : s.vm.findClass RX12 = some m.cls := findClass_of_methodNamed B.named
  have hS : va_S A s.heap s.heap [] := va_S.rf
  have hF : Fr [76, 97, 98] [(66, 59), (66, 60), (66, 61), (66, 62), (66, 63)] G G := Fr.rf
  have hl := lv_entry ([.ref (a 66), .int p0, .int p1, .int p2, .int p3, .int p4]) (n := 8) (Nat.le_of_ble_eq_true rfl)
  rw [lg_entry_eq]
  generalize (lg_sl ([.ref (a 66), .int p0, .int p1, .int p2, .int p3, .int p4]) ++ List.replicate (8 - (lg_sl ([.ref (a 66), .int p0, .int p1, .int p2, .int p3, .int p4])).length) Slot.unset).toArray = ls at hl ⊢
  have hl : lv_has ls 8 [(0, .ref (a 66)), (1, .int p0), (2, .int p1), (3, .int p2), (4, .int p3), (5, .int p4)] := hl
  refine lv_aload_n hx hb dX12_even_0 rfl (lv_at hl 0 rfl) ?_
  refine lv_iload_n hx hb dX12_even_1 rfl (lv_at hl 1 rfl) ?_
  refine lv_iload_n hx hb dX12_even_2 rfl (lv_at hl 2 rfl) ?_
  refine lv_iload_n hx hb dX12_even_3 rfl (lv_at hl 3 rfl) ?_
  refine S_calli (va_runV (As := [.int p0, .int p1, .int p2]) (rest := []) ⟨hx, hb, hml, hown, hts⟩ (n_isAsked l D k A a z G p0 p1 p2 ) (cwV 3 hts (gd_V hgd m1826 m1828 m89 m131 m1829) rfl rfl rfl (by decide +kernel) ⟨Nat.le_of_ble_eq_true rfl, Nat.le_of_ble_eq_true rfl⟩) (pre_V hW hB_G hK hZ hS kd_66 rfl) rfl rfl hl.1 rfl (lv_room (Nat.le_of_ble_eq_true rfl)) dX12_even_4 ⟨Nat.le_of_ble_eq_true rfl, Nat.le_of_ble_eq_true rfl⟩) hS (fun r_1 G_2 H locs hpo hW hS => ?_)
  have hX_5 : Q_isAsked p0 p1 p2 G r_1 G_2 := hpo
  obtain ⟨hB_G_2, hq_3, f_6, hp_4, -⟩ := hpo
  have hF := hF.call hq_3 (by decide) (by decide)
  refine lv_if_eq (tgt := 31) hx hb dX12_even_7 (by decide) (fun c_7 => ?_) (fun c_7 => ?_)
  · have c_7 : r_1.toInt = 0 := xI_eq rfl rfl c_7
    refine lv_iconst (v := (-1)) hx hb dX12_even_31 (by decide) ?_
    exact W.iret (v := (-1)) hx hb hr (fun t ht _ => ⟨⟨(-1), G_2, rfl, (Q_even_mk ⟨hB_G_2, hF, ⟨r_1, G_2, hX_5, (Or.inl ⟨c_7, ⟨rfl, rfl⟩⟩)⟩⟩), wd_t ht hW⟩, hS.F ht⟩) hS.2.2 dX12_even_32
  · have c_7 : r_1.toInt ≠ 0 := xI_ne rfl rfl c_7
    refine lv_aload_n hx hb dX12_even_10 rfl (lv_at hl 0 rfl) ?_
    refine lv_iload_n hx hb dX12_even_11 rfl (lv_at hl 2 rfl) ?_
    refine lv_iload hx hb dX12_even_12 (lv_at hl 4 rfl) ?_
    refine S_calli (va_runV (As := [.int p1, .int p3]) (rest := []) ⟨hx, hb, hml, hown, hts⟩ (n_isInch l D k A a z G_2 p1 p3 ⟨by omega, by omega⟩) (cwV 2 hts (gd_V hgd m1784 m1786 m84 m131 m1787) rfl rfl rfl (by decide +kernel) ⟨Nat.le_of_ble_eq_true rfl, Nat.le_of_ble_eq_true rfl⟩) (pre_V hW hB_G_2 hK hZ hS kd_66 rfl) rfl rfl hl.1 rfl (lv_room (Nat.le_of_ble_eq_true rfl)) dX12_even_14 ⟨Nat.le_of_ble_eq_true rfl, Nat.le_of_ble_eq_true rfl⟩) hS (fun r_8 G_9 H locs hpo hW hS => ?_)
    have hX_12 : Q_isInch p1 p3 G_2 r_8 G_9 := hpo
    obtain ⟨hB_G_9, hq_10, f_13, hp_11, -⟩ := hpo
    have hF := hF.call hq_10 (by decide) (by decide)
    refine lv_if_eq (tgt := 31) hx hb dX12_even_17 (by decide) (fun c_14 => ?_) (fun c_14 => ?_)
    · have c_14 : r_8.toInt = 0 := xI_eq rfl rfl c_14
      refine lv_iconst (v := (-1)) hx hb dX12_even_31 (by decide) ?_
      exact W.iret (v := (-1)) hx hb hr (fun t ht _ => ⟨⟨(-1), G_9, rfl, (Q_even_mk ⟨hB_G_9, hF, ⟨r_1, G_2, hX_5, (Or.inr ⟨c_7, ⟨r_8, G_9, hX_12, (Or.inl ⟨c_14, ⟨rfl, rfl⟩⟩)⟩⟩)⟩⟩), wd_t ht hW⟩, hS.F ht⟩) hS.2.2 dX12_even_32
    · have c_14 : r_8.toInt ≠ 0 := xI_ne rfl rfl c_14
      refine lv_iload hx hb dX12_even_20 (lv_at hl 5 rfl) ?_
      refine lv_iconst (v := 1) hx hb dX12_even_22 (by decide) ?_
      refine lv_bipush (v := 99) hx hb dX12_even_23 (by decide) ?_
      have qc_15 : (1 : Int32).toInt = 1 := rfl
      have qc_16 : (99 : Int32).toInt = 99 := rfl
      refine S_calli (va_runS (As := [.int p4, .int 1, .int 99]) (rest := []) ⟨hx, hb, hml, hown, hts⟩ (n_isIn l D k A a z G_9 p4 1 99 ) (va_cwS 3 hts (gd_S hgd m1781 m1782 m131 m1783) rfl rfl rfl (by decide +kernel) ⟨Nat.le_of_ble_eq_true rfl, Nat.le_of_ble_eq_true rfl⟩) (pre_S hW hB_G_9 hK hZ hS) rfl rfl hl.1 rfl (lv_room (Nat.le_of_ble_eq_true rfl)) dX12_even_25 ⟨Nat.le_of_ble_eq_true rfl, Nat.le_of_ble_eq_true rfl⟩) hS (fun r_17 G_18 H locs hpo hW hS => ?_)
      have hX_21 : Q_isIn p4 1 99 G_9 r_17 G_18 := hpo
      obtain ⟨hB_G_18, hq_19, f_22, hp_20, -⟩ := hpo
      have hF := hF.call hq_19 (by decide) (by decide)
      refine lv_if_ne (tgt := 33) hx hb dX12_even_28 (by decide) (fun c_23 => ?_) (fun c_23 => ?_)
      · have c_23 : r_17.toInt ≠ 0 := xI_ne rfl rfl c_23
        refine lv_aload_n hx hb dX12_even_33 rfl (lv_at hl 0 rfl) ?_
        refine lv_iload_n hx hb dX12_even_34 rfl (lv_at hl 1 rfl) ?_
        refine lv_iload_n hx hb dX12_even_35 rfl (lv_at hl 2 rfl) ?_
        refine lv_iload_n hx hb dX12_even_36 rfl (lv_at hl 3 rfl) ?_
        have g_24 : gP G_18 = gP G := gP_fr (rs := []) (fs := []) (((Fr.rf.call hq_3 (by decide) (by decide)).call hq_10 (by decide) (by decide)).call hq_19 (by decide) (by decide)) (by decide) (by decide)
        refine S_callv (va_runV (As := [.int p0, .int p1, .int p2]) (rest := []) ⟨hx, hb, hml, hown, hts⟩ (n_layStreet l D k A a z G_18 p0 p1 p2 ⟨by omega, by omega⟩ ⟨by omega, by omega⟩ (by omega)) (cwV 3 hts (gd_V hgd m1834 m1836 m91 m131 m1837) rfl rfl rfl (by decide +kernel) ⟨Nat.le_of_ble_eq_true rfl, Nat.le_of_ble_eq_true rfl⟩) (pre_V hW hB_G_18 hK hZ hS kd_66 rfl) rfl rfl hl.1 rfl (lv_room (Nat.le_of_ble_eq_true rfl)) dX12_even_37 ⟨Nat.le_of_ble_eq_true rfl, Nat.le_of_ble_eq_true rfl⟩) hS (fun G_26 H locs hpo hW hS => ?_)
        have hX_29 : Q_layStreet p0 p1 p2 G_18 G_26 := hpo
        obtain ⟨hB_G_26, hq_27, hp_28, -⟩ := hpo
        have hF := hF.call hq_27 (by decide) (by decide)
        refine lv_iconst (v := 0) hx hb dX12_even_40 (by decide) ?_
        refine lv_istore (lv' := [(6, .int 0), (0, .ref (a 66)), (1, .int p0), (2, .int p1), (3, .int p2), (4, .int p3), (5, .int p4)]) hx hb dX12_even_41 hl (by decide) rfl (fun ls hl => ?_)
        refine lv_iload hx hb dX12_even_43 (lv_at hl 5 rfl) ?_
        refine lv_istore (lv' := [(7, .int p3), (6, .int 0), (0, .ref (a 66)), (1, .int p0), (2, .int p1), (3, .int p2), (4, .int p3), (5, .int p4)]) hx hb dX12_even_45 hl (by decide) rfl (fun ls hl => ?_)
        have qc_37 : (0 : Int32).toInt = 0 := rfl
        refine loop_N (Inv := fun n H locs ls => ∃ (G_30 : GS) (x_34 : Int32) (x_35 : Int32), (n : Int) = 600 - x_34.toInt ∧ (0 ≤ x_34.toInt ∧ x_34.toInt ≤ 500) ∧ Rc (St_n_even_1 p4) (p3, 0, G_26) (x_34, x_35, G_30) ∧ Wd D k A a G_30 H ∧ Bd G_30 ∧ Fr [76, 97, 98] [(66, 59), (66, 60), (66, 61), (66, 62), (66, 63)] G G_30 ∧ Fr [] [] G_26 G_30 ∧ va_S A s.heap H locs ∧ lv_has ls 8 [(7, .int x_34), (6, .int x_35), (0, .ref (a 66)), (5, .int p4)]) (fun n_33 H locs ls ih_32 hI => ?_) (600 - p3.toInt : Int).toNat ⟨G_26, p3, 0, (Int.toNat_of_nonneg (by omega)), ⟨by omega, by omega⟩, Rc.rf, hW, hB_G_26, hF, Fr.rf, hS, lv_sub hl [0, 1, 2, 7] rfl⟩
        obtain ⟨G_30, x_34, x_35, hn_39, f_38, hX_36, hW, hB_G_30, hF, hq_31, hS, hl⟩ := hI
        refine lv_iload hx hb dX12_even_47 (lv_at hl 0 rfl) ?_
        refine lv_sipush (v := 400) hx hb dX12_even_49 (by decide) ?_
        refine lv_icmp_ge (tgt := 78) hx hb dX12_even_52 (by decide) (fun c_40 => ?_) (fun c_40 => ?_)
        · have c_40 : 400 ≤ x_34.toInt := xI_le rfl rfl c_40
          refine lv_iload hx hb dX12_even_78 (lv_at hl 1 rfl) ?_
          exact W.iret (v := x_35) hx hb hr (fun t ht _ => ⟨⟨x_35, G_30, rfl, (Q_even_mk ⟨hB_G_30, hF, ⟨r_1, G_2, hX_5, (Or.inr ⟨c_7, ⟨r_8, G_9, hX_12, (Or.inr ⟨c_14, ⟨r_17, G_18, hX_21, (Or.inr ⟨c_23, ⟨G_26, hX_29, ⟨x_34, x_35, G_30, hX_36, f_38, hB_G_30, hq_31, (Or.inl ⟨c_40, ⟨rfl, rfl⟩⟩)⟩⟩⟩)⟩⟩)⟩⟩)⟩⟩), wd_t ht hW⟩, hS.F ht⟩) hS.2.2 dX12_even_80
        · have c_40 : x_34.toInt < 400 := xI_nle rfl rfl c_40
          refine lv_aload_n hx hb dX12_even_55 rfl (lv_at hl 2 rfl) ?_
          refine S_getR (n := 98) (C := RX12) (T := TX12) (N := 89) hx hb hg iX12 hown hK hW kd_66 rfl 58 (by decide) (hg (Cond.fieldLink RX12 115 "SlabWalkModel" "lawful" "[Z") m1372) (fun _ h9 => h9) rfl dX12_even_56 ?_
          refine lv_iload hx hb dX12_even_59 (lv_at hl 0 rfl) ?_
          refine S_zald hx hb hK hW kd_98 (vin (by omega) (by omega)) dX12_even_61 (fun y_41 ey_41 => ?_)
          have ty_41 := hB_G_30.law ey_41
          refine lv_if_eq (tgt := 78) hx hb dX12_even_62 (by decide) (fun c_42 => ?_) (fun c_42 => ?_)
          · have c_42 : y_41.toInt = 0 := xI_eq rfl rfl c_42
            refine lv_iload hx hb dX12_even_78 (lv_at hl 1 rfl) ?_
            exact W.iret (v := x_35) hx hb hr (fun t ht _ => ⟨⟨x_35, G_30, rfl, (Q_even_mk ⟨hB_G_30, hF, ⟨r_1, G_2, hX_5, (Or.inr ⟨c_7, ⟨r_8, G_9, hX_12, (Or.inr ⟨c_14, ⟨r_17, G_18, hX_21, (Or.inr ⟨c_23, ⟨G_26, hX_29, ⟨x_34, x_35, G_30, hX_36, f_38, hB_G_30, hq_31, (Or.inr ⟨c_40, ⟨y_41, ey_41, ⟨c_42, ⟨rfl, rfl⟩⟩⟩⟩)⟩⟩⟩)⟩⟩)⟩⟩)⟩⟩), wd_t ht hW⟩, hS.F ht⟩) hS.2.2 dX12_even_80
          · have c_42 : y_41.toInt ≠ 0 := xI_ne rfl rfl c_42
            obtain ⟨y_43, ey_43⟩ : ∃ q, q = x_35 + 1 := ⟨_, rfl⟩
            refine lv_iinc (v := y_43) (lv' := [(6, .int y_43), (7, .int x_34), (0, .ref (a 66)), (5, .int p4)]) hx hb dX12_even_65 hl (k := 1) rfl (by rw [ey_43]; rfl) (by decide) rfl (fun ls hl => ?_)
            refine lv_iload hx hb dX12_even_68 (lv_at hl 1 rfl) ?_
            refine lv_iload hx hb dX12_even_70 (lv_at hl 3 rfl) ?_
            refine lv_iadd hx hb dX12_even_72 ?_
            refine lv_topi (fun y_44 ey_44 => ?_)
            have ty_44 : y_44.toInt = x_34.toInt + p4.toInt := xI_add rfl rfl ey_44 (by omega) (by omega)
            refine lv_istore (lv' := [(7, .int y_44), (6, .int y_43), (0, .ref (a 66)), (5, .int p4)]) hx hb dX12_even_73 hl (by decide) rfl (fun ls hl => ?_)
            refine lv_goto (tgt := 47) hx hb dX12_even_75 (by decide) ?_
            exact ih_32 (600 - y_44.toInt : Int).toNat (by omega) _ _ _ ⟨G_30, y_44, y_43, (Int.toNat_of_nonneg (by omega)), ⟨by omega, by omega⟩, (hX_36.st (St_n_even_1_mk ⟨x_34, x_35, G_30, y_44, y_43, G_30, rfl, rfl, f_38, hB_G_30, ⟨c_40, ⟨y_41, ey_41, ⟨c_42, ⟨y_43, ey_43, ⟨y_44, ty_44, ⟨rfl, rfl, rfl⟩⟩⟩⟩⟩⟩⟩)), hW, hB_G_30, hF, (Fr.rf.call hq_31 (by decide) (by decide)), hS, lv_sub hl [0, 1, 2, 3] rfl⟩
      · have c_23 : r_17.toInt = 0 := xI_eq rfl rfl c_23
        refine lv_iconst (v := (-1)) hx hb dX12_even_31 (by decide) ?_
        exact W.iret (v := (-1)) hx hb hr (fun t ht _ => ⟨⟨(-1), G_18, rfl, (Q_even_mk ⟨hB_G_18, hF, ⟨r_1, G_2, hX_5, (Or.inr ⟨c_7, ⟨r_8, G_9, hX_12, (Or.inr ⟨c_14, ⟨r_17, G_18, hX_21, (Or.inl ⟨c_23, ⟨rfl, rfl⟩⟩)⟩⟩)⟩⟩)⟩⟩), wd_t ht hW⟩, hS.F ht⟩) hS.2.2 dX12_even_32

set_option maxHeartbeats 4000000 in
set_option maxRecDepth 100000 in
theorem n_evens (l : Launch) (D : va_G) (k : KT) (A : Nat → Prop) (a : Nat → Nat) (z : SK) (G : GS) (p0 : Int32) (p1 : Int32) (p2 : Int32) (hP9 : gP G = 1) (hW9 : gW G = 1) : Met l yX12_evens (WS yX12_evens cX12_evens 7 (some .int)) ({ frames := 5, cells := 0, slots := 0, locals := 117 }) (va_Pc [.ref (a 66), .int p0, .int p1, .int p2] (cW D k A a z G)) (va_Qi (fun (r : Int32) (G1 : GS) => Q_evens p0 p1 p2 G r G1) (fun (G1 : GS) t => Wd D k A a G1 t.heap) A) 0 0 A := by
  refine Met.ofW (cc := cX12_evens) (maxL := 7) (ret := (some .int)) (by decide) rfl ?_
  intro p e s m args below meth c s₁ B hml hv
  obtain ⟨rfl, hW, hB_G, hK, hZ⟩ := hv
  have hx := B.exec
  have hb := B.bytes
  have hr := B.returns
  have hts := atoms_spec (ws := WS yX12_evens cX12_evens 7 (some .int)) B.pre
  have hgd : ∀ w ∈ gd, w ∈ WS yX12_evens cX12_evens 7 (some .int) := fun w h => List.mem_cons_of_mem _ h
  have hg : ∀ w ∈ gd, w.before _ s = true := fun w h => hts w (hgd w h)
  have hown : s.vm.findClass RX12 = some m.cls := findClass_of_methodNamed B.named
  have hS : va_S A s.heap s.heap [] := va_S.rf
  have hF : Fr [100, 76, 97, 98] [(66, 59), (66, 60), (66, 61), (66, 62), (66, 63), (66, 66)] G G := Fr.rf
  have hl := lv_entry ([.ref (a 66), .int p0, .int p1, .int p2]) (n := 7) (Nat.le_of_ble_eq_true rfl)
  rw [lg_entry_eq]
  generalize (lg_sl ([.ref (a 66), .int p0, .int p1, .int p2]) ++ List.replicate (7 - (lg_sl ([.ref (a 66), .int p0, .int p1, .int p2])).length) Slot.unset).toArray = ls at hl ⊢
  have hl : lv_has ls 7 [(0, .ref (a 66)), (1, .int p0), (2, .int p1), (3, .int p2)] := hl
  refine lv_aload_n hx hb dX12_evens_0 rfl (lv_at hl 0 rfl) ?_
  refine lv_iconst (v := 0) hx hb dX12_evens_1 (by decide) ?_
  refine S_putI (ty := .int) (C := RX12) (T := TX12) (N := 89) hx hb hg iX12 tyX12 tyX12_ok nmX12 hown hK hW hS kd_66 rfl 66 (by decide) (hg (Cond.fieldLink RX12 446 "SlabWalkModel" "lain" "I") m1380) (fun _ h9 => h9) rfl (by decide +kernel) rfl rfl rfl dX12_evens_2 (fun G_1 H locs eG_1 hW hS => ?_)
  have hB_G_1 : Bd G_1 := hB_G.put (V := 0) (lo := 0) (hi := 400) eG_1 rfl rfl rfl (by omega) (by omega) (hB_G.2.put eG_1 rfl)
  have hF := hF.put eG_1 (Or.inr (by decide))
  refine lv_aload_n hx hb dX12_evens_5 rfl (lv_at hl 0 rfl) ?_
  refine lv_iload_n hx hb dX12_evens_6 rfl (lv_at hl 1 rfl) ?_
  refine lv_iload_n hx hb dX12_evens_7 rfl (lv_at hl 2 rfl) ?_
  refine lv_iload_n hx hb dX12_evens_8 rfl (lv_at hl 3 rfl) ?_
  have b_2 : 0 ≤ (G.1 66 52).toInt ∧ (G.1 66 52).toInt ≤ 3 := hB_G.i 66 52 rfl rfl
  have g_3 : (G_1.1 66 52).toInt = (G.1 66 52).toInt := by rw [show G_1.1 66 52 = (G.1 66 52) from (gp_ne eG_1 (by decide))]
  have b_4 : 0 ≤ (G.1 66 53).toInt ∧ (G.1 66 53).toInt ≤ 4 := hB_G.i 66 53 rfl rfl
  have g_5 : (G_1.1 66 53).toInt = (G.1 66 53).toInt := by rw [show G_1.1 66 53 = (G.1 66 53) from (gp_ne eG_1 (by decide))]
  refine S_calli (va_runV (As := [.int p0, .int p1, .int p2]) (rest := []) ⟨hx, hb, hml, hown, hts⟩ (n_isAsked l D k A a z G_1 p0 p1 p2 ) (cwV 3 hts (gd_V hgd m1826 m1828 m89 m131 m1829) rfl rfl rfl (by decide +kernel) ⟨Nat.le_of_ble_eq_true rfl, Nat.le_of_ble_eq_true rfl⟩) (pre_V hW hB_G_1 hK hZ hS kd_66 rfl) rfl rfl hl.1 rfl (lv_room (Nat.le_of_ble_eq_true rfl)) dX12_evens_9 ⟨Nat.le_of_ble_eq_true rfl, Nat.le_of_ble_eq_true rfl⟩) hS (fun r_6 G_7 H locs hpo hW hS => ?_)
  have hX_10 : Q_isAsked p0 p1 p2 G_1 r_6 G_7 := hpo
  obtain ⟨hB_G_7, hq_8, f_11, hp_9, -⟩ := hpo
  have hF := hF.call hq_8 (by decide) (by decide)
  refine lv_if_ne (tgt := 17) hx hb dX12_evens_12 (by decide) (fun c_12 => ?_) (fun c_12 => ?_)
  · have c_12 : r_6.toInt ≠ 0 := xI_ne rfl rfl c_12
    refine lv_aload_n hx hb dX12_evens_17 rfl (lv_at hl 0 rfl) ?_
    refine lv_iload_n hx hb dX12_evens_18 rfl (lv_at hl 1 rfl) ?_
    refine lv_iload_n hx hb dX12_evens_19 rfl (lv_at hl 2 rfl) ?_
    refine lv_iload_n hx hb dX12_evens_20 rfl (lv_at hl 3 rfl) ?_
    have g_13 : gP G_7 = gP G := gP_fr (rs := []) (fs := [(66, 66)]) ((Fr.rf.put eG_1 (Or.inr (by decide))).call hq_8 (by decide) (by decide)) (by decide) (by decide)
    refine S_callv (va_runV (As := [.int p0, .int p1, .int p2]) (rest := []) ⟨hx, hb, hml, hown, hts⟩ (n_layStreet l D k A a z G_7 p0 p1 p2 ⟨by omega, by omega⟩ ⟨by omega, by omega⟩ (by omega)) (cwV 3 hts (gd_V hgd m1834 m1836 m91 m131 m1837) rfl rfl rfl (by decide +kernel) ⟨Nat.le_of_ble_eq_true rfl, Nat.le_of_ble_eq_true rfl⟩) (pre_V hW hB_G_7 hK hZ hS kd_66 rfl) rfl rfl hl.1 rfl (lv_room (Nat.le_of_ble_eq_true rfl)) dX12_evens_21 ⟨Nat.le_of_ble_eq_true rfl, Nat.le_of_ble_eq_true rfl⟩) hS (fun G_15 H locs hpo hW hS => ?_)
    have hX_18 : Q_layStreet p0 p1 p2 G_7 G_15 := hpo
    obtain ⟨hB_G_15, hq_16, hp_17, -⟩ := hpo
    have hF := hF.call hq_16 (by decide) (by decide)
    have b_19 : 0 ≤ (G.1 66 53).toInt ∧ (G.1 66 53).toInt ≤ 4 := hB_G.i 66 53 rfl rfl
    have u_20 := gW_at hW9 p0 (by omega) (by omega)
    have u_21 : (G_7.1 92 p0.toNatClampNeg).toInt = (G.1 92 p0.toNatClampNeg).toInt := congrArg Int32.toInt (((hq_8.ri 92 (by decide) (by decide) p0.toNatClampNeg).trans (gp_ne eG_1 (fun q => absurd q.1 (by decide)))))
    have u_22 : (G_7.1 93 p0.toNatClampNeg).toInt = (G.1 93 p0.toNatClampNeg).toInt := congrArg Int32.toInt (((hq_8.ri 93 (by decide) (by decide) p0.toNatClampNeg).trans (gp_ne eG_1 (fun q => absurd q.1 (by decide)))))
    have u_23 : (G_7.1 94 p0.toNatClampNeg).toInt = (G.1 94 p0.toNatClampNeg).toInt := congrArg Int32.toInt (((hq_8.ri 94 (by decide) (by decide) p0.toNatClampNeg).trans (gp_ne eG_1 (fun q => absurd q.1 (by decide)))))
    have u_24 : (G_7.1 95 p0.toNatClampNeg).toInt = (G.1 95 p0.toNatClampNeg).toInt := congrArg Int32.toInt (((hq_8.ri 95 (by decide) (by decide) p0.toNatClampNeg).trans (gp_ne eG_1 (fun q => absurd q.1 (by decide)))))
    have b_25 : 0 ≤ (G_15.1 66 60).toInt ∧ (G_15.1 66 60).toInt ≤ 12 := hB_G_15.i 66 60 rfl rfl
    have b_26 : 0 ≤ (G_15.1 66 61).toInt ∧ (G_15.1 66 61).toInt ≤ 60 := hB_G_15.i 66 61 rfl rfl
    have b_27 : 0 ≤ (G_15.1 66 62).toInt ∧ (G_15.1 66 62).toInt ≤ 60 := hB_G_15.i 66 62 rfl rfl
    have b_28 : 0 ≤ (G_15.1 66 63).toInt ∧ (G_15.1 66 63).toInt ≤ 99 := hB_G_15.i 66 63 rfl rfl
    refine lv_aload_n hx hb dX12_evens_24 rfl (lv_at hl 0 rfl) ?_
    refine S_getI (v := (G_15.1 66 61)) (C := RX12) (T := TX12) (N := 89) hx hb hg iX12 hown hK hW kd_66 rfl 61 (by decide) (hg (Cond.fieldLink RX12 475 "SlabWalkModel" "least" "I") m1375) (fun _ h9 => h9) rfl rfl dX12_evens_25 ?_
    refine lv_istore (lv' := [(4, .int (G_15.1 66 61)), (0, .ref (a 66)), (1, .int p0), (2, .int p1), (3, .int p2)]) hx hb dX12_evens_28 hl (by decide) rfl (fun ls hl => ?_)
    have g_35 : (G_15.1 66 66).toInt = 0 := by rw [show G_15.1 66 66 = 0 from ((hq_16.i 66 66 (by decide) (by decide)).trans ((hq_8.i 66 66 (by decide) (by decide)).trans (gp_eq eG_1)))]; rfl
    refine loop_N (Inv := fun n H locs ls => ∃ (G_29 : GS) (x_33 : Int32), (n : Int) = 61 - x_33.toInt ∧ (1 ≤ x_33.toInt ∧ x_33.toInt ≤ 61) ∧ ((G_29.1 66 66).toInt ≤ x_33.toInt) ∧ Rc (St_n_evens_1 G_15) ((G_15.1 66 61), G_15) (x_33, G_29) ∧ Wd D k A a G_29 H ∧ Bd G_29 ∧ Fr [100, 76, 97, 98] [(66, 59), (66, 60), (66, 61), (66, 62), (66, 63), (66, 66)] G G_29 ∧ Fr [100] [(66, 66)] G_15 G_29 ∧ va_S A s.heap H locs ∧ lv_has ls 7 [(4, .int x_33), (0, .ref (a 66))]) (fun n_32 H locs ls ih_31 hI => ?_) (61 - (G_15.1 66 61).toInt : Int).toNat ⟨G_15, (G_15.1 66 61), (Int.toNat_of_nonneg (by omega)), ⟨by omega, by omega⟩, (by omega), Rc.rf, hW, hB_G_15, hF, Fr.rf, hS, lv_sub hl [0, 1] rfl⟩
    obtain ⟨G_29, x_33, hn_38, f_36, f_37, hX_34, hW, hB_G_29, hF, hq_30, hS, hl⟩ := hI
    have b_39 : 0 ≤ (G_29.1 66 66).toInt ∧ (G_29.1 66 66).toInt ≤ 400 := hB_G_29.i 66 66 rfl rfl
    refine lv_iload hx hb dX12_evens_30 (lv_at hl 0 rfl) ?_
    refine lv_aload_n hx hb dX12_evens_32 rfl (lv_at hl 1 rfl) ?_
    refine S_getI (v := (G_15.1 66 62)) (C := RX12) (T := TX12) (N := 89) hx hb hg iX12 hown hK hW kd_66 rfl 62 (by decide) (hg (Cond.fieldLink RX12 478 "SlabWalkModel" "most" "I") m1376) (fun _ h9 => h9) rfl ((hq_30.i 66 62 (by decide) (by decide)).trans (rfl)) dX12_evens_33 ?_
    refine lv_icmp_gt (tgt := 92) hx hb dX12_evens_36 (by decide) (fun c_40 => ?_) (fun c_40 => ?_)
    · have c_40 : (G_15.1 66 62).toInt < x_33.toInt := xI_lt rfl rfl c_40
      refine lv_aload_n hx hb dX12_evens_92 rfl (lv_at hl 1 rfl) ?_
      refine S_getI (v := (G_29.1 66 66)) (C := RX12) (T := TX12) (N := 89) hx hb hg iX12 hown hK hW kd_66 rfl 66 (by decide) (hg (Cond.fieldLink RX12 446 "SlabWalkModel" "lain" "I") m1380) (fun _ h9 => h9) rfl rfl dX12_evens_93 ?_
      exact W.iret (v := (G_29.1 66 66)) hx hb hr (fun t ht _ => ⟨⟨(G_29.1 66 66), G_29, rfl, (Q_evens_mk ⟨hB_G_29, hF, ⟨G_1, hB_G_1, (Fr.rf.put eG_1 (Or.inr (by decide))), (gp_eq eG_1), ⟨r_6, G_7, hX_10, (Or.inr ⟨c_12, ⟨G_15, hX_18, ⟨x_33, G_29, hX_34, f_36, f_37, hB_G_29, hq_30, ⟨c_40, ⟨rfl, rfl⟩⟩⟩⟩⟩)⟩⟩⟩), wd_t ht hW⟩, hS.F ht⟩) hS.2.2 dX12_evens_96
    · have c_40 : x_33.toInt ≤ (G_15.1 66 62).toInt := xI_nlt rfl rfl c_40
      refine lv_iconst (v := 0) hx hb dX12_evens_39 (by decide) ?_
      refine lv_istore (lv' := [(5, .int 0), (4, .int x_33), (0, .ref (a 66))]) hx hb dX12_evens_40 hl (by decide) rfl (fun ls hl => ?_)
      refine lv_iconst (v := 0) hx hb dX12_evens_42 (by decide) ?_
      refine lv_istore (lv' := [(6, .int 0), (5, .int 0), (4, .int x_33), (0, .ref (a 66))]) hx hb dX12_evens_43 hl (by decide) rfl (fun ls hl => ?_)
      have qc_48 : (0 : Int32).toInt = 0 := rfl
      refine loop_N (Inv := fun n H locs ls => ∃ (G_41 : GS) (x_45 : Int32) (x_46 : Int32), (n : Int) = 60 - x_45.toInt ∧ (0 ≤ x_45.toInt ∧ x_45.toInt ≤ 60) ∧ (0 ≤ x_46.toInt ∧ x_46.toInt ≤ 1) ∧ Rc (St_n_evens_2 x_33 G_15) (0, 0, G_29) (x_45, x_46, G_41) ∧ Wd D k A a G_41 H ∧ Bd G_41 ∧ Fr [100, 76, 97, 98] [(66, 59), (66, 60), (66, 61), (66, 62), (66, 63), (66, 66)] G G_41 ∧ Fr [] [] G_29 G_41 ∧ va_S A s.heap H locs ∧ lv_has ls 7 [(6, .int x_45), (5, .int x_46), (4, .int x_33), (0, .ref (a 66))]) (fun n_44 H locs ls ih_43 hI => ?_) (60 - 0 : Int).toNat ⟨G_29, 0, 0, (Int.toNat_of_nonneg (by omega)), ⟨by omega, by omega⟩, ⟨by omega, by omega⟩, Rc.rf, hW, hB_G_29, hF, Fr.rf, hS, lv_sub hl [0, 1, 2, 3] rfl⟩
      obtain ⟨G_41, x_45, x_46, hn_51, f_49, f_50, hX_47, hW, hB_G_41, hF, hq_42, hS, hl⟩ := hI
      refine lv_iload hx hb dX12_evens_45 (lv_at hl 0 rfl) ?_
      refine lv_aload_n hx hb dX12_evens_47 rfl (lv_at hl 3 rfl) ?_
      refine S_getI (v := (G_15.1 66 62)) (C := RX12) (T := TX12) (N := 89) hx hb hg iX12 hown hK hW kd_66 rfl 62 (by decide) (hg (Cond.fieldLink RX12 478 "SlabWalkModel" "most" "I") m1376) (fun _ h9 => h9) rfl ((hq_42.i 66 62 (by decide) (by decide)).trans ((hq_30.i 66 62 (by decide) (by decide)).trans (rfl))) dX12_evens_48 ?_
      refine lv_icmp_ge (tgt := 75) hx hb dX12_evens_51 (by decide) (fun c_52 => ?_) (fun c_52 => ?_)
      · have c_52 : (G_15.1 66 62).toInt ≤ x_45.toInt := xI_le rfl rfl c_52
        refine lv_iload hx hb dX12_evens_75 (lv_at hl 1 rfl) ?_
        refine lv_if_eq (tgt := 86) hx hb dX12_evens_77 (by decide) (fun c_53 => ?_) (fun c_53 => ?_)
        · have c_53 : x_46.toInt = 0 := xI_eq rfl rfl c_53
          obtain ⟨y_54, ey_54⟩ : ∃ q, q = x_33 + 1 := ⟨_, rfl⟩
          have ty_54 : y_54.toInt = x_33.toInt + 1 := xI_add rfl rfl ey_54 (by omega) (by omega)
          refine lv_iinc (v := y_54) (lv' := [(4, .int y_54), (6, .int x_45), (5, .int x_46), (0, .ref (a 66))]) hx hb dX12_evens_86 hl (k := 2) rfl (by rw [ey_54]; rfl) (by decide) rfl (fun ls hl => ?_)
          refine lv_goto (tgt := 30) hx hb dX12_evens_89 (by decide) ?_
          have g_55 : (G_41.1 66 66).toInt = (G_29.1 66 66).toInt := by rw [show G_41.1 66 66 = (G_29.1 66 66) from ((hq_42.i 66 66 (by decide) (by decide)).trans (rfl))]
          exact ih_31 (61 - y_54.toInt : Int).toNat (by omega) _ _ _ ⟨G_41, y_54, (Int.toNat_of_nonneg (by omega)), ⟨by omega, by omega⟩, (by omega), (hX_34.st (St_n_evens_1_mk ⟨x_33, G_29, y_54, G_41, rfl, rfl, f_36, f_37, hB_G_29, ⟨c_40, ⟨x_45, x_46, G_41, hX_47, f_49, f_50, hB_G_41, hq_42, (Or.inl ⟨c_52, (Or.inl ⟨c_53, ⟨y_54, ty_54, ⟨rfl, rfl⟩⟩⟩)⟩)⟩⟩⟩)), hW, hB_G_41, hF, ((Fr.rf.call hq_30 (by decide) (by decide)).call hq_42 (by decide) (by decide)), hS, lv_sub hl [0, 3] rfl⟩
        · have c_53 : x_46.toInt ≠ 0 := xI_ne rfl rfl c_53
          refine lv_aload_n hx hb dX12_evens_80 rfl (lv_at hl 3 rfl) ?_
          refine lv_iload hx hb dX12_evens_81 (lv_at hl 2 rfl) ?_
          have g_56 : (G_41.1 66 66).toInt = (G_29.1 66 66).toInt := by rw [show G_41.1 66 66 = (G_29.1 66 66) from ((hq_42.i 66 66 (by decide) (by decide)).trans (rfl))]
          have g_57 : (G_41.1 66 66).toInt = (G_29.1 66 66).toInt := by rw [show G_41.1 66 66 = (G_29.1 66 66) from ((hq_42.i 66 66 (by decide) (by decide)).trans (rfl))]
          refine S_callv (va_runV (As := [.int x_33]) (rest := []) ⟨hx, hb, hml, hown, hts⟩ (n_lay l D k A a z G_41 x_33 (by omega)) (cwV 1 hts (gd_V hgd m1866 m1868 m97 m131 m1869) rfl rfl rfl (by decide +kernel) ⟨Nat.le_of_ble_eq_true rfl, Nat.le_of_ble_eq_true rfl⟩) (pre_V hW hB_G_41 hK hZ hS kd_66 rfl) rfl rfl hl.1 rfl (lv_room (Nat.le_of_ble_eq_true rfl)) dX12_evens_83 ⟨Nat.le_of_ble_eq_true rfl, Nat.le_of_ble_eq_true rfl⟩) hS (fun G_59 H locs hpo hW hS => ?_)
          have hX_62 : Q_lay x_33 G_41 G_59 := hpo
          obtain ⟨hB_G_59, hq_60, hp_61, -⟩ := hpo
          have hF := hF.call hq_60 (by decide) (by decide)
          obtain ⟨y_63, ey_63⟩ : ∃ q, q = x_33 + 1 := ⟨_, rfl⟩
          have ty_63 : y_63.toInt = x_33.toInt + 1 := xI_add rfl rfl ey_63 (by omega) (by omega)
          refine lv_iinc (v := y_63) (lv' := [(4, .int y_63), (6, .int x_45), (5, .int x_46), (0, .ref (a 66))]) hx hb dX12_evens_86 hl (k := 2) rfl (by rw [ey_63]; rfl) (by decide) rfl (fun ls hl => ?_)
          refine lv_goto (tgt := 30) hx hb dX12_evens_89 (by decide) ?_
          have b_64 : 0 ≤ (G_59.1 66 66).toInt ∧ (G_59.1 66 66).toInt ≤ 400 := hB_G_59.i 66 66 rfl rfl
          exact ih_31 (61 - y_63.toInt : Int).toNat (by omega) _ _ _ ⟨G_59, y_63, (Int.toNat_of_nonneg (by omega)), ⟨by omega, by omega⟩, (by omega), (hX_34.st (St_n_evens_1_mk ⟨x_33, G_29, y_63, G_59, rfl, rfl, f_36, f_37, hB_G_29, ⟨c_40, ⟨x_45, x_46, G_41, hX_47, f_49, f_50, hB_G_41, hq_42, (Or.inl ⟨c_52, (Or.inr ⟨c_53, ⟨G_59, hX_62, ⟨y_63, ty_63, ⟨rfl, rfl⟩⟩⟩⟩)⟩)⟩⟩⟩)), hW, hB_G_59, hF, (((Fr.rf.call hq_30 (by decide) (by decide)).call hq_42 (by decide) (by decide)).call hq_60 (by decide) (by decide)), hS, lv_sub hl [0, 3] rfl⟩
      · have c_52 : x_45.toInt < (G_15.1 66 62).toInt := xI_nle rfl rfl c_52
        refine lv_iload hx hb dX12_evens_54 (lv_at hl 1 rfl) ?_
        refine lv_if_ne (tgt := 75) hx hb dX12_evens_56 (by decide) (fun c_65 => ?_) (fun c_65 => ?_)
        · have c_65 : x_46.toInt ≠ 0 := xI_ne rfl rfl c_65
          refine lv_iload hx hb dX12_evens_75 (lv_at hl 1 rfl) ?_
          refine lv_if_eq (tgt := 86) hx hb dX12_evens_77 (by decide) (fun c_66 => ?_) (fun c_66 => ?_)
          · have c_66 : x_46.toInt = 0 := xI_eq rfl rfl c_66
            exfalso; omega
          · have c_66 : x_46.toInt ≠ 0 := xI_ne rfl rfl c_66
            refine lv_aload_n hx hb dX12_evens_80 rfl (lv_at hl 3 rfl) ?_
            refine lv_iload hx hb dX12_evens_81 (lv_at hl 2 rfl) ?_
            have g_67 : (G_41.1 66 66).toInt = (G_29.1 66 66).toInt := by rw [show G_41.1 66 66 = (G_29.1 66 66) from ((hq_42.i 66 66 (by decide) (by decide)).trans (rfl))]
            have g_68 : (G_41.1 66 66).toInt = (G_29.1 66 66).toInt := by rw [show G_41.1 66 66 = (G_29.1 66 66) from ((hq_42.i 66 66 (by decide) (by decide)).trans (rfl))]
            refine S_callv (va_runV (As := [.int x_33]) (rest := []) ⟨hx, hb, hml, hown, hts⟩ (n_lay l D k A a z G_41 x_33 (by omega)) (cwV 1 hts (gd_V hgd m1866 m1868 m97 m131 m1869) rfl rfl rfl (by decide +kernel) ⟨Nat.le_of_ble_eq_true rfl, Nat.le_of_ble_eq_true rfl⟩) (pre_V hW hB_G_41 hK hZ hS kd_66 rfl) rfl rfl hl.1 rfl (lv_room (Nat.le_of_ble_eq_true rfl)) dX12_evens_83 ⟨Nat.le_of_ble_eq_true rfl, Nat.le_of_ble_eq_true rfl⟩) hS (fun G_70 H locs hpo hW hS => ?_)
            have hX_73 : Q_lay x_33 G_41 G_70 := hpo
            obtain ⟨hB_G_70, hq_71, hp_72, -⟩ := hpo
            have hF := hF.call hq_71 (by decide) (by decide)
            obtain ⟨y_74, ey_74⟩ : ∃ q, q = x_33 + 1 := ⟨_, rfl⟩
            have ty_74 : y_74.toInt = x_33.toInt + 1 := xI_add rfl rfl ey_74 (by omega) (by omega)
            refine lv_iinc (v := y_74) (lv' := [(4, .int y_74), (6, .int x_45), (5, .int x_46), (0, .ref (a 66))]) hx hb dX12_evens_86 hl (k := 2) rfl (by rw [ey_74]; rfl) (by decide) rfl (fun ls hl => ?_)
            refine lv_goto (tgt := 30) hx hb dX12_evens_89 (by decide) ?_
            have b_75 : 0 ≤ (G_70.1 66 66).toInt ∧ (G_70.1 66 66).toInt ≤ 400 := hB_G_70.i 66 66 rfl rfl
            exact ih_31 (61 - y_74.toInt : Int).toNat (by omega) _ _ _ ⟨G_70, y_74, (Int.toNat_of_nonneg (by omega)), ⟨by omega, by omega⟩, (by omega), (hX_34.st (St_n_evens_1_mk ⟨x_33, G_29, y_74, G_70, rfl, rfl, f_36, f_37, hB_G_29, ⟨c_40, ⟨x_45, x_46, G_41, hX_47, f_49, f_50, hB_G_41, hq_42, (Or.inr ⟨c_52, ⟨c_65, ⟨G_70, hX_73, ⟨y_74, ty_74, ⟨rfl, rfl⟩⟩⟩⟩⟩)⟩⟩⟩)), hW, hB_G_70, hF, (((Fr.rf.call hq_30 (by decide) (by decide)).call hq_42 (by decide) (by decide)).call hq_71 (by decide) (by decide)), hS, lv_sub hl [0, 3] rfl⟩
        · have c_65 : x_46.toInt = 0 := xI_eq rfl rfl c_65
          refine lv_aload_n hx hb dX12_evens_59 rfl (lv_at hl 3 rfl) ?_
          refine lv_iload hx hb dX12_evens_60 (lv_at hl 0 rfl) ?_
          refine lv_iload hx hb dX12_evens_62 (lv_at hl 2 rfl) ?_
          refine S_calli (va_runV (As := [.int x_45, .int x_33]) (rest := []) ⟨hx, hb, hml, hown, hts⟩ (n_comesToEnd l D k A a z G_41 x_45 x_33 ⟨by omega, by omega⟩ ⟨by omega, by omega⟩) (cwV 2 hts (gd_V hgd m1899 m1901 m100 m131 m1902) rfl rfl rfl (by decide +kernel) ⟨Nat.le_of_ble_eq_true rfl, Nat.le_of_ble_eq_true rfl⟩) (pre_V hW hB_G_41 hK hZ hS kd_66 rfl) rfl rfl hl.1 rfl (lv_room (Nat.le_of_ble_eq_true rfl)) dX12_evens_64 ⟨Nat.le_of_ble_eq_true rfl, Nat.le_of_ble_eq_true rfl⟩) hS (fun r_76 G_77 H locs hpo hW hS => ?_)
          have hX_80 : Q_comesToEnd x_45 x_33 G_41 r_76 G_77 := hpo
          obtain ⟨hB_G_77, hq_78, f_81, -⟩ := hpo
          have hF := hF.call hq_78 (by decide) (by decide)
          refine lv_istore (lv' := [(5, .int r_76), (6, .int x_45), (4, .int x_33), (0, .ref (a 66))]) hx hb dX12_evens_67 hl (by decide) rfl (fun ls hl => ?_)
          obtain ⟨y_82, ey_82⟩ : ∃ q, q = x_45 + 1 := ⟨_, rfl⟩
          have ty_82 : y_82.toInt = x_45.toInt + 1 := xI_add rfl rfl ey_82 (by omega) (by omega)
          refine lv_iinc (v := y_82) (lv' := [(6, .int y_82), (5, .int r_76), (4, .int x_33), (0, .ref (a 66))]) hx hb dX12_evens_69 hl (k := 1) rfl (by rw [ey_82]; rfl) (by decide) rfl (fun ls hl => ?_)
          refine lv_goto (tgt := 45) hx hb dX12_evens_72 (by decide) ?_
          exact ih_43 (60 - y_82.toInt : Int).toNat (by omega) _ _ _ ⟨G_77, y_82, r_76, (Int.toNat_of_nonneg (by omega)), ⟨by omega, by omega⟩, ⟨by omega, by omega⟩, (hX_47.st (St_n_evens_2_mk ⟨x_45, x_46, G_41, y_82, r_76, G_77, rfl, rfl, f_49, f_50, hB_G_41, ⟨c_52, ⟨c_65, ⟨r_76, G_77, hX_80, ⟨y_82, ty_82, ⟨rfl, rfl, rfl⟩⟩⟩⟩⟩⟩)), hW, hB_G_77, hF, ((Fr.rf.call hq_42 (by decide) (by decide)).call hq_78 (by decide) (by decide)), hS, lv_sub hl [0, 1, 2, 3] rfl⟩
  · have c_12 : r_6.toInt = 0 := xI_eq rfl rfl c_12
    refine lv_iconst (v := (-1)) hx hb dX12_evens_15 (by decide) ?_
    exact W.iret (v := (-1)) hx hb hr (fun t ht _ => ⟨⟨(-1), G_7, rfl, (Q_evens_mk ⟨hB_G_7, hF, ⟨G_1, hB_G_1, (Fr.rf.put eG_1 (Or.inr (by decide))), (gp_eq eG_1), ⟨r_6, G_7, hX_10, (Or.inl ⟨c_12, ⟨rfl, rfl⟩⟩)⟩⟩⟩), wd_t ht hW⟩, hS.F ht⟩) hS.2.2 dX12_evens_16

set_option maxHeartbeats 4000000 in
set_option maxRecDepth 100000 in
theorem n_evenest (l : Launch) (D : va_G) (k : KT) (A : Nat → Prop) (a : Nat → Nat) (z : SK) (G : GS) (p0 : Int32) (p1 : Int32) (p2 : Int32) (p3 : Int32) (hP9 : gP G = 1) (hW9 : gW G = 1) : Met l yX12_evenest (WS yX12_evenest cX12_evenest 7 (some .int)) ({ frames := 5, cells := 0, slots := 0, locals := 117 }) (va_Pc [.ref (a 66), .int p0, .int p1, .int p2, .int p3] (cW D k A a z G)) (va_Qi (fun (r : Int32) (G1 : GS) => Q_evenest p0 p1 p2 p3 G r G1) (fun (G1 : GS) t => Wd D k A a G1 t.heap) A) 0 0 A := by
  refine Met.ofW (cc := cX12_evenest) (maxL := 7) (ret := (some .int)) (by decide) rfl ?_
  intro p e s m args below meth c s₁ B hml hv
  obtain ⟨rfl, hW, hB_G, hK, hZ⟩ := hv
  have hx := B.exec
  have hb := B.bytes
  have hr := B.returns
  have hts := atoms_spec (ws := WS yX12_evenest cX12_evenest 7 (some .int)) B.pre
  have hgd : ∀ w ∈ gd, w ∈ WS yX12_evenest cX12_evenest 7 (some .int) := fun w h => List.mem_cons_of_mem _ h
  have hg : ∀ w ∈ gd, w.before _ s = true := fun w h => hts w (hgd w h)
  have hown : s.vm.findClass RX12 = some m.cls := findClass_of_methodNamed B.named
  have hS : va_S A s.heap s.heap [] := va_S.rf
  have hF : Fr [103, 76, 97, 98] [(66, 59), (66, 60), (66, 61), (66, 62), (66, 63)] G G := Fr.rf
  have hl := lv_entry ([.ref (a 66), .int p0, .int p1, .int p2, .int p3]) (n := 7) (Nat.le_of_ble_eq_true rfl)
  rw [lg_entry_eq]
  generalize (lg_sl ([.ref (a 66), .int p0, .int p1, .int p2, .int p3]) ++ List.replicate (7 - (lg_sl ([.ref (a 66), .int p0, .int p1, .int p2, .int p3])).length) Slot.unset).toArray = ls at hl ⊢
  have hl : lv_has ls 7 [(0, .ref (a 66)), (1, .int p0), (2, .int p1), (3, .int p2), (4, .int p3)] := hl
  refine lv_aload_n hx hb dX12_evenest_0 rfl (lv_at hl 0 rfl) ?_
  refine lv_iload_n hx hb dX12_evenest_1 rfl (lv_at hl 1 rfl) ?_
  refine lv_iload_n hx hb dX12_evenest_2 rfl (lv_at hl 2 rfl) ?_
  refine lv_iload_n hx hb dX12_evenest_3 rfl (lv_at hl 3 rfl) ?_
  refine S_calli (va_runV (As := [.int p0, .int p1, .int p2]) (rest := []) ⟨hx, hb, hml, hown, hts⟩ (n_isAsked l D k A a z G p0 p1 p2 ) (cwV 3 hts (gd_V hgd m1826 m1828 m89 m131 m1829) rfl rfl rfl (by decide +kernel) ⟨Nat.le_of_ble_eq_true rfl, Nat.le_of_ble_eq_true rfl⟩) (pre_V hW hB_G hK hZ hS kd_66 rfl) rfl rfl hl.1 rfl (lv_room (Nat.le_of_ble_eq_true rfl)) dX12_evenest_4 ⟨Nat.le_of_ble_eq_true rfl, Nat.le_of_ble_eq_true rfl⟩) hS (fun r_1 G_2 H locs hpo hW hS => ?_)
  have hX_5 : Q_isAsked p0 p1 p2 G r_1 G_2 := hpo
  obtain ⟨hB_G_2, hq_3, f_6, hp_4, -⟩ := hpo
  have hF := hF.call hq_3 (by decide) (by decide)
  refine lv_if_eq (tgt := 20) hx hb dX12_evenest_7 (by decide) (fun c_7 => ?_) (fun c_7 => ?_)
  · have c_7 : r_1.toInt = 0 := xI_eq rfl rfl c_7
    refine lv_iconst (v := (-1)) hx hb dX12_evenest_20 (by decide) ?_
    exact W.iret (v := (-1)) hx hb hr (fun t ht _ => ⟨⟨(-1), G_2, rfl, (Q_evenest_mk ⟨hB_G_2, hF, ⟨r_1, G_2, hX_5, (Or.inl ⟨c_7, ⟨rfl, rfl⟩⟩)⟩⟩), wd_t ht hW⟩, hS.F ht⟩) hS.2.2 dX12_evenest_21
  · have c_7 : r_1.toInt ≠ 0 := xI_ne rfl rfl c_7
    refine lv_iload hx hb dX12_evenest_10 (lv_at hl 4 rfl) ?_
    refine lv_iconst (v := 0) hx hb dX12_evenest_12 (by decide) ?_
    refine lv_iconst (v := 1) hx hb dX12_evenest_13 (by decide) ?_
    have qc_8 : (0 : Int32).toInt = 0 := rfl
    have qc_9 : (1 : Int32).toInt = 1 := rfl
    refine S_calli (va_runS (As := [.int p3, .int 0, .int 1]) (rest := []) ⟨hx, hb, hml, hown, hts⟩ (n_isIn l D k A a z G_2 p3 0 1 ) (va_cwS 3 hts (gd_S hgd m1781 m1782 m131 m1783) rfl rfl rfl (by decide +kernel) ⟨Nat.le_of_ble_eq_true rfl, Nat.le_of_ble_eq_true rfl⟩) (pre_S hW hB_G_2 hK hZ hS) rfl rfl hl.1 rfl (lv_room (Nat.le_of_ble_eq_true rfl)) dX12_evenest_14 ⟨Nat.le_of_ble_eq_true rfl, Nat.le_of_ble_eq_true rfl⟩) hS (fun r_10 G_11 H locs hpo hW hS => ?_)
    have hX_14 : Q_isIn p3 0 1 G_2 r_10 G_11 := hpo
    obtain ⟨hB_G_11, hq_12, f_15, hp_13, -⟩ := hpo
    have hF := hF.call hq_12 (by decide) (by decide)
    refine lv_if_ne (tgt := 22) hx hb dX12_evenest_17 (by decide) (fun c_16 => ?_) (fun c_16 => ?_)
    · have c_16 : r_10.toInt ≠ 0 := xI_ne rfl rfl c_16
      refine lv_aload_n hx hb dX12_evenest_22 rfl (lv_at hl 0 rfl) ?_
      refine lv_iload_n hx hb dX12_evenest_23 rfl (lv_at hl 1 rfl) ?_
      refine lv_iload_n hx hb dX12_evenest_24 rfl (lv_at hl 2 rfl) ?_
      refine lv_iload_n hx hb dX12_evenest_25 rfl (lv_at hl 3 rfl) ?_
      have g_17 : gP G_11 = gP G := gP_fr (rs := []) (fs := []) ((Fr.rf.call hq_3 (by decide) (by decide)).call hq_12 (by decide) (by decide)) (by decide) (by decide)
      refine S_callv (va_runV (As := [.int p0, .int p1, .int p2]) (rest := []) ⟨hx, hb, hml, hown, hts⟩ (n_layStreet l D k A a z G_11 p0 p1 p2 ⟨by omega, by omega⟩ ⟨by omega, by omega⟩ (by omega)) (cwV 3 hts (gd_V hgd m1834 m1836 m91 m131 m1837) rfl rfl rfl (by decide +kernel) ⟨Nat.le_of_ble_eq_true rfl, Nat.le_of_ble_eq_true rfl⟩) (pre_V hW hB_G_11 hK hZ hS kd_66 rfl) rfl rfl hl.1 rfl (lv_room (Nat.le_of_ble_eq_true rfl)) dX12_evenest_26 ⟨Nat.le_of_ble_eq_true rfl, Nat.le_of_ble_eq_true rfl⟩) hS (fun G_19 H locs hpo hW hS => ?_)
      have hX_22 : Q_layStreet p0 p1 p2 G_11 G_19 := hpo
      obtain ⟨hB_G_19, hq_20, hp_21, -⟩ := hpo
      have hF := hF.call hq_20 (by decide) (by decide)
      have b_23 : 0 ≤ (G.1 66 53).toInt ∧ (G.1 66 53).toInt ≤ 4 := hB_G.i 66 53 rfl rfl
      have u_24 := gW_at hW9 p0 (by omega) (by omega)
      have u_25 : (G_11.1 92 p0.toNatClampNeg).toInt = (G.1 92 p0.toNatClampNeg).toInt := congrArg Int32.toInt (((hq_12.ri 92 (by decide) (by decide) p0.toNatClampNeg).trans (hq_3.ri 92 (by decide) (by decide) p0.toNatClampNeg)))
      have u_26 : (G_11.1 93 p0.toNatClampNeg).toInt = (G.1 93 p0.toNatClampNeg).toInt := congrArg Int32.toInt (((hq_12.ri 93 (by decide) (by decide) p0.toNatClampNeg).trans (hq_3.ri 93 (by decide) (by decide) p0.toNatClampNeg)))
      have u_27 : (G_11.1 94 p0.toNatClampNeg).toInt = (G.1 94 p0.toNatClampNeg).toInt := congrArg Int32.toInt (((hq_12.ri 94 (by decide) (by decide) p0.toNatClampNeg).trans (hq_3.ri 94 (by decide) (by decide) p0.toNatClampNeg)))
      have u_28 : (G_11.1 95 p0.toNatClampNeg).toInt = (G.1 95 p0.toNatClampNeg).toInt := congrArg Int32.toInt (((hq_12.ri 95 (by decide) (by decide) p0.toNatClampNeg).trans (hq_3.ri 95 (by decide) (by decide) p0.toNatClampNeg)))
      have b_29 : 0 ≤ (G_19.1 66 60).toInt ∧ (G_19.1 66 60).toInt ≤ 12 := hB_G_19.i 66 60 rfl rfl
      have b_30 : 0 ≤ (G_19.1 66 61).toInt ∧ (G_19.1 66 61).toInt ≤ 60 := hB_G_19.i 66 61 rfl rfl
      have b_31 : 0 ≤ (G_19.1 66 62).toInt ∧ (G_19.1 66 62).toInt ≤ 60 := hB_G_19.i 66 62 rfl rfl
      have b_32 : 0 ≤ (G_19.1 66 63).toInt ∧ (G_19.1 66 63).toInt ≤ 99 := hB_G_19.i 66 63 rfl rfl
      refine lv_iconst (v := 0) hx hb dX12_evenest_29 (by decide) ?_
      refine lv_istore (lv' := [(5, .int 0), (0, .ref (a 66)), (1, .int p0), (2, .int p1), (3, .int p2), (4, .int p3)]) hx hb dX12_evenest_30 hl (by decide) rfl (fun ls hl => ?_)
      have qc_39 : (0 : Int32).toInt = 0 := rfl
      refine loop_N (Inv := fun n H locs ls => ∃ (G_33 : GS) (x_37 : Int32), (n : Int) = 60 - x_37.toInt ∧ (0 ≤ x_37.toInt ∧ x_37.toInt ≤ 60) ∧ Rc (St_n_evenest_1 G_19) (0, G_19) (x_37, G_33) ∧ Wd D k A a G_33 H ∧ Bd G_33 ∧ Fr [103, 76, 97, 98] [(66, 59), (66, 60), (66, 61), (66, 62), (66, 63)] G G_33 ∧ Fr [103] [] G_19 G_33 ∧ va_S A s.heap H locs ∧ lv_has ls 7 [(5, .int x_37), (0, .ref (a 66)), (4, .int p3)]) (fun n_36 H locs ls ih_35 hI => ?_) (60 - 0 : Int).toNat ⟨G_19, 0, (Int.toNat_of_nonneg (by omega)), ⟨by omega, by omega⟩, Rc.rf, hW, hB_G_19, hF, Fr.rf, hS, lv_sub hl [0, 1, 5] rfl⟩
      obtain ⟨G_33, x_37, hn_41, f_40, hX_38, hW, hB_G_33, hF, hq_34, hS, hl⟩ := hI
      refine lv_iload hx hb dX12_evenest_32 (lv_at hl 0 rfl) ?_
      refine lv_aload_n hx hb dX12_evenest_34 rfl (lv_at hl 1 rfl) ?_
      refine S_getI (v := (G_19.1 66 62)) (C := RX12) (T := TX12) (N := 89) hx hb hg iX12 hown hK hW kd_66 rfl 62 (by decide) (hg (Cond.fieldLink RX12 478 "SlabWalkModel" "most" "I") m1376) (fun _ h9 => h9) rfl ((hq_34.i 66 62 (by decide) (by decide)).trans (rfl)) dX12_evenest_35 ?_
      refine lv_aload_n hx hb dX12_evenest_38 rfl (lv_at hl 1 rfl) ?_
      refine S_getI (v := (G_19.1 66 61)) (C := RX12) (T := TX12) (N := 89) hx hb hg iX12 hown hK hW kd_66 rfl 61 (by decide) (hg (Cond.fieldLink RX12 475 "SlabWalkModel" "least" "I") m1375) (fun _ h9 => h9) rfl ((hq_34.i 66 61 (by decide) (by decide)).trans (rfl)) dX12_evenest_39 ?_
      refine lv_isub hx hb dX12_evenest_42 ?_
      refine lv_topi (fun y_42 ey_42 => ?_)
      have ty_42 : y_42.toInt = (G_19.1 66 62).toInt - (G_19.1 66 61).toInt := xI_sub rfl rfl ey_42 (by omega) (by omega)
      refine lv_icmp_gt (tgt := 103) hx hb dX12_evenest_43 (by decide) (fun c_43 => ?_) (fun c_43 => ?_)
      · have c_43 : y_42.toInt < x_37.toInt := xI_lt rfl rfl c_43
        refine lv_iconst (v := (-1)) hx hb dX12_evenest_103 (by decide) ?_
        exact W.iret (v := (-1)) hx hb hr (fun t ht _ => ⟨⟨(-1), G_33, rfl, (Q_evenest_mk ⟨hB_G_33, hF, ⟨r_1, G_2, hX_5, (Or.inr ⟨c_7, ⟨r_10, G_11, hX_14, (Or.inr ⟨c_16, ⟨G_19, hX_22, ⟨x_37, G_33, hX_38, f_40, hB_G_33, hq_34, ⟨y_42, ty_42, (Or.inl ⟨c_43, ⟨rfl, rfl⟩⟩)⟩⟩⟩⟩)⟩⟩)⟩⟩), wd_t ht hW⟩, hS.F ht⟩) hS.2.2 dX12_evenest_104
      · have c_43 : x_37.toInt ≤ y_42.toInt := xI_nlt rfl rfl c_43
        refine lv_aload_n hx hb dX12_evenest_46 rfl (lv_at hl 1 rfl) ?_
        refine S_getI (v := (G_19.1 66 61)) (C := RX12) (T := TX12) (N := 89) hx hb hg iX12 hown hK hW kd_66 rfl 61 (by decide) (hg (Cond.fieldLink RX12 475 "SlabWalkModel" "least" "I") m1375) (fun _ h9 => h9) rfl ((hq_34.i 66 61 (by decide) (by decide)).trans (rfl)) dX12_evenest_47 ?_
        refine lv_istore (lv' := [(6, .int (G_19.1 66 61)), (5, .int x_37), (0, .ref (a 66)), (4, .int p3)]) hx hb dX12_evenest_50 hl (by decide) rfl (fun ls hl => ?_)
        refine loop_N (Inv := fun n H locs ls => ∃ (G_44 : GS) (x_48 : Int32), (n : Int) = 61 - x_48.toInt ∧ (0 ≤ x_48.toInt ∧ x_48.toInt ≤ 61) ∧ Rc (St_n_evenest_2 x_37 G_19) ((G_19.1 66 61), G_33) (x_48, G_44) ∧ Wd D k A a G_44 H ∧ Bd G_44 ∧ Fr [103, 76, 97, 98] [(66, 59), (66, 60), (66, 61), (66, 62), (66, 63)] G G_44 ∧ Fr [103] [] G_33 G_44 ∧ va_S A s.heap H locs ∧ lv_has ls 7 [(6, .int x_48), (5, .int x_37), (0, .ref (a 66)), (4, .int p3)]) (fun n_47 H locs ls ih_46 hI => ?_) (61 - (G_19.1 66 61).toInt : Int).toNat ⟨G_33, (G_19.1 66 61), (Int.toNat_of_nonneg (by omega)), ⟨by omega, by omega⟩, Rc.rf, hW, hB_G_33, hF, Fr.rf, hS, lv_sub hl [0, 1, 2, 3] rfl⟩
        obtain ⟨G_44, x_48, hn_51, f_50, hX_49, hW, hB_G_44, hF, hq_45, hS, hl⟩ := hI
        refine lv_iload hx hb dX12_evenest_52 (lv_at hl 0 rfl) ?_
        refine lv_iload hx hb dX12_evenest_54 (lv_at hl 1 rfl) ?_
        refine lv_iadd hx hb dX12_evenest_56 ?_
        refine lv_topi (fun y_52 ey_52 => ?_)
        have ty_52 : y_52.toInt = x_48.toInt + x_37.toInt := xI_add rfl rfl ey_52 (by omega) (by omega)
        refine lv_aload_n hx hb dX12_evenest_57 rfl (lv_at hl 2 rfl) ?_
        refine S_getI (v := (G_19.1 66 62)) (C := RX12) (T := TX12) (N := 89) hx hb hg iX12 hown hK hW kd_66 rfl 62 (by decide) (hg (Cond.fieldLink RX12 478 "SlabWalkModel" "most" "I") m1376) (fun _ h9 => h9) rfl ((hq_45.i 66 62 (by decide) (by decide)).trans ((hq_34.i 66 62 (by decide) (by decide)).trans (rfl))) dX12_evenest_58 ?_
        refine lv_icmp_gt (tgt := 97) hx hb dX12_evenest_61 (by decide) (fun c_53 => ?_) (fun c_53 => ?_)
        · have c_53 : (G_19.1 66 62).toInt < y_52.toInt := xI_lt rfl rfl c_53
          obtain ⟨y_54, ey_54⟩ : ∃ q, q = x_37 + 1 := ⟨_, rfl⟩
          have ty_54 : y_54.toInt = x_37.toInt + 1 := xI_add rfl rfl ey_54 (by omega) (by omega)
          refine lv_iinc (v := y_54) (lv' := [(5, .int y_54), (6, .int x_48), (0, .ref (a 66)), (4, .int p3)]) hx hb dX12_evenest_97 hl (k := 1) rfl (by rw [ey_54]; rfl) (by decide) rfl (fun ls hl => ?_)
          refine lv_goto (tgt := 32) hx hb dX12_evenest_100 (by decide) ?_
          exact ih_35 (60 - y_54.toInt : Int).toNat (by omega) _ _ _ ⟨G_44, y_54, (Int.toNat_of_nonneg (by omega)), ⟨by omega, by omega⟩, (hX_38.st (St_n_evenest_1_mk ⟨x_37, G_33, y_54, G_44, rfl, rfl, f_40, hB_G_33, ⟨y_42, ty_42, ⟨c_43, ⟨x_48, G_44, hX_49, f_50, hB_G_44, hq_45, ⟨y_52, ty_52, ⟨c_53, ⟨y_54, ty_54, ⟨rfl, rfl⟩⟩⟩⟩⟩⟩⟩⟩)), hW, hB_G_44, hF, ((Fr.rf.call hq_34 (by decide) (by decide)).call hq_45 (by decide) (by decide)), hS, lv_sub hl [0, 2, 3] rfl⟩
        · have c_53 : y_52.toInt ≤ (G_19.1 66 62).toInt := xI_nlt rfl rfl c_53
          refine lv_aload_n hx hb dX12_evenest_64 rfl (lv_at hl 2 rfl) ?_
          refine lv_iload hx hb dX12_evenest_65 (lv_at hl 0 rfl) ?_
          refine lv_iload hx hb dX12_evenest_67 (lv_at hl 0 rfl) ?_
          refine lv_iload hx hb dX12_evenest_69 (lv_at hl 1 rfl) ?_
          refine lv_iadd hx hb dX12_evenest_71 ?_
          refine lv_topi (fun y_55 ey_55 => ?_)
          have ty_55 : y_55.toInt = x_48.toInt + x_37.toInt := xI_add rfl rfl ey_55 (by omega) (by omega)
          refine S_calli (va_runV (As := [.int x_48, .int y_55]) (rest := []) ⟨hx, hb, hml, hown, hts⟩ (n_isEven l D k A a z G_44 x_48 y_55 ⟨by omega, by omega⟩ ⟨by omega, by omega⟩) (cwV 2 hts (gd_V hgd m1887 m1889 m99 m131 m1890) rfl rfl rfl (by decide +kernel) ⟨Nat.le_of_ble_eq_true rfl, Nat.le_of_ble_eq_true rfl⟩) (pre_V hW hB_G_44 hK hZ hS kd_66 rfl) rfl rfl hl.1 rfl (lv_room (Nat.le_of_ble_eq_true rfl)) dX12_evenest_72 ⟨Nat.le_of_ble_eq_true rfl, Nat.le_of_ble_eq_true rfl⟩) hS (fun r_56 G_57 H locs hpo hW hS => ?_)
          have hX_60 : Q_isEven x_48 y_55 G_44 r_56 G_57 := hpo
          obtain ⟨hB_G_57, hq_58, f_61, -⟩ := hpo
          have hF := hF.call hq_58 (by decide) (by decide)
          refine lv_if_eq (tgt := 91) hx hb dX12_evenest_75 (by decide) (fun c_62 => ?_) (fun c_62 => ?_)
          · have c_62 : r_56.toInt = 0 := xI_eq rfl rfl c_62
            obtain ⟨y_63, ey_63⟩ : ∃ q, q = x_48 + 1 := ⟨_, rfl⟩
            have ty_63 : y_63.toInt = x_48.toInt + 1 := xI_add rfl rfl ey_63 (by omega) (by omega)
            refine lv_iinc (v := y_63) (lv' := [(6, .int y_63), (5, .int x_37), (0, .ref (a 66)), (4, .int p3)]) hx hb dX12_evenest_91 hl (k := 0) rfl (by rw [ey_63]; rfl) (by decide) rfl (fun ls hl => ?_)
            refine lv_goto (tgt := 52) hx hb dX12_evenest_94 (by decide) ?_
            exact ih_46 (61 - y_63.toInt : Int).toNat (by omega) _ _ _ ⟨G_57, y_63, (Int.toNat_of_nonneg (by omega)), ⟨by omega, by omega⟩, (hX_49.st (St_n_evenest_2_mk ⟨x_48, G_44, y_63, G_57, rfl, rfl, f_50, hB_G_44, ⟨y_52, ty_52, ⟨c_53, ⟨y_55, ty_55, ⟨r_56, G_57, hX_60, ⟨c_62, ⟨y_63, ty_63, ⟨rfl, rfl⟩⟩⟩⟩⟩⟩⟩⟩)), hW, hB_G_57, hF, ((Fr.rf.call hq_45 (by decide) (by decide)).call hq_58 (by decide) (by decide)), hS, lv_sub hl [0, 1, 2, 3] rfl⟩
          · have c_62 : r_56.toInt ≠ 0 := xI_ne rfl rfl c_62
            refine lv_iload hx hb dX12_evenest_78 (lv_at hl 3 rfl) ?_
            refine lv_if_ne (tgt := 88) hx hb dX12_evenest_80 (by decide) (fun c_64 => ?_) (fun c_64 => ?_)
            · have c_64 : p3.toInt ≠ 0 := xI_ne rfl rfl c_64
              refine lv_iload hx hb dX12_evenest_88 (lv_at hl 0 rfl) ?_
              exact W.iret (v := x_48) hx hb hr (fun t ht _ => ⟨⟨x_48, G_57, rfl, (Q_evenest_mk ⟨hB_G_57, hF, ⟨r_1, G_2, hX_5, (Or.inr ⟨c_7, ⟨r_10, G_11, hX_14, (Or.inr ⟨c_16, ⟨G_19, hX_22, ⟨x_37, G_33, hX_38, f_40, hB_G_33, hq_34, ⟨y_42, ty_42, (Or.inr ⟨c_43, ⟨x_48, G_44, hX_49, f_50, hB_G_44, hq_45, ⟨y_52, ty_52, ⟨c_53, ⟨y_55, ty_55, ⟨r_56, G_57, hX_60, ⟨c_62, (Or.inr ⟨c_64, ⟨rfl, rfl⟩⟩)⟩⟩⟩⟩⟩⟩⟩)⟩⟩⟩⟩)⟩⟩)⟩⟩), wd_t ht hW⟩, hS.F ht⟩) hS.2.2 dX12_evenest_90
            · have c_64 : p3.toInt = 0 := xI_eq rfl rfl c_64
              refine lv_iload hx hb dX12_evenest_83 (lv_at hl 1 rfl) ?_
              refine lv_goto (tgt := 90) hx hb dX12_evenest_85 (by decide) ?_
              exact W.iret (v := x_37) hx hb hr (fun t ht _ => ⟨⟨x_37, G_57, rfl, (Q_evenest_mk ⟨hB_G_57, hF, ⟨r_1, G_2, hX_5, (Or.inr ⟨c_7, ⟨r_10, G_11, hX_14, (Or.inr ⟨c_16, ⟨G_19, hX_22, ⟨x_37, G_33, hX_38, f_40, hB_G_33, hq_34, ⟨y_42, ty_42, (Or.inr ⟨c_43, ⟨x_48, G_44, hX_49, f_50, hB_G_44, hq_45, ⟨y_52, ty_52, ⟨c_53, ⟨y_55, ty_55, ⟨r_56, G_57, hX_60, ⟨c_62, (Or.inl ⟨c_64, ⟨rfl, rfl⟩⟩)⟩⟩⟩⟩⟩⟩⟩)⟩⟩⟩⟩)⟩⟩)⟩⟩), wd_t ht hW⟩, hS.F ht⟩) hS.2.2 dX12_evenest_90
    · have c_16 : r_10.toInt = 0 := xI_eq rfl rfl c_16
      refine lv_iconst (v := (-1)) hx hb dX12_evenest_20 (by decide) ?_
      exact W.iret (v := (-1)) hx hb hr (fun t ht _ => ⟨⟨(-1), G_11, rfl, (Q_evenest_mk ⟨hB_G_11, hF, ⟨r_1, G_2, hX_5, (Or.inr ⟨c_7, ⟨r_10, G_11, hX_14, (Or.inl ⟨c_16, ⟨rfl, rfl⟩⟩)⟩⟩)⟩⟩), wd_t ht hW⟩, hS.F ht⟩) hS.2.2 dX12_evenest_21

set_option maxHeartbeats 4000000 in
set_option maxRecDepth 100000 in
theorem n_ways (l : Launch) (D : va_G) (k : KT) (A : Nat → Prop) (a : Nat → Nat) (z : SK) (G : GS) (p0 : Int32) (p1 : Int32) (p2 : Int32) (p3 : Int32) (hP9 : gP G = 1) : Met l yX12_ways (WS yX12_ways cX12_ways 8 (some .long)) ({ frames := 5, cells := 0, slots := 0, locals := 117 }) (va_Pc [.ref (a 66), .int p0, .int p1, .int p2, .int p3] (cW D k A a z G)) (va_Ql (fun (r : Int64) (G1 : GS) => Q_ways p0 p1 p2 p3 G r G1) (fun (G1 : GS) t => Wd D k A a G1 t.heap) A) 0 0 A := by
  refine Met.ofW (cc := cX12_ways) (maxL := 8) (ret := (some .long)) (by decide) rfl ?_
  intro p e s m args below meth c s₁ B hml hv
  obtain ⟨rfl, hW, hB_G, hK, hZ⟩ := hv
  have hx := B.exec
  have hb := B.bytes
  have hr := B.returns
  have hts := atoms_spec (ws := WS yX12_ways cX12_ways 8 (some .long)) B.pre
  have hgd : ∀ w ∈ gd, w ∈ WS yX12_ways cX12_ways 8 (some .long) := fun w h => List.mem_cons_of_mem _ h
  have hg : ∀ w ∈ gd, w.before _ s = true := fun w h => hts w (hgd w h)
  have hown : s.vm.findClass RX12 = some m.cls := findClass_of_methodNamed B.named
  have hS : va_S A s.heap s.heap [] := va_S.rf
  have hF : Fr [101, 102, 76, 97, 98] [(66, 59), (66, 60), (66, 61), (66, 62), (66, 63)] G G := Fr.rf
  have hl := lv_entry ([.ref (a 66), .int p0, .int p1, .int p2, .int p3]) (n := 8) (Nat.le_of_ble_eq_true rfl)
  rw [lg_entry_eq]
  generalize (lg_sl ([.ref (a 66), .int p0, .int p1, .int p2, .int p3]) ++ List.replicate (8 - (lg_sl ([.ref (a 66), .int p0, .int p1, .int p2, .int p3])).length) Slot.unset).toArray = ls at hl ⊢
  have hl : lv_has ls 8 [(0, .ref (a 66)), (1, .int p0), (2, .int p1), (3, .int p2), (4, .int p3)] := hl
  refine lv_aload_n hx hb dX12_ways_0 rfl (lv_at hl 0 rfl) ?_
  refine lv_iload_n hx hb dX12_ways_1 rfl (lv_at hl 1 rfl) ?_
  refine lv_iload_n hx hb dX12_ways_2 rfl (lv_at hl 2 rfl) ?_
  refine lv_iload_n hx hb dX12_ways_3 rfl (lv_at hl 3 rfl) ?_
  refine S_calli (va_runV (As := [.int p0, .int p1, .int p2]) (rest := []) ⟨hx, hb, hml, hown, hts⟩ (n_isAsked l D k A a z G p0 p1 p2 ) (cwV 3 hts (gd_V hgd m1826 m1828 m89 m131 m1829) rfl rfl rfl (by decide +kernel) ⟨Nat.le_of_ble_eq_true rfl, Nat.le_of_ble_eq_true rfl⟩) (pre_V hW hB_G hK hZ hS kd_66 rfl) rfl rfl hl.1 rfl (lv_room (Nat.le_of_ble_eq_true rfl)) dX12_ways_4 ⟨Nat.le_of_ble_eq_true rfl, Nat.le_of_ble_eq_true rfl⟩) hS (fun r_1 G_2 H locs hpo hW hS => ?_)
  have hX_5 : Q_isAsked p0 p1 p2 G r_1 G_2 := hpo
  obtain ⟨hB_G_2, hq_3, f_6, hp_4, -⟩ := hpo
  have hF := hF.call hq_3 (by decide) (by decide)
  refine lv_if_eq (tgt := 21) hx hb dX12_ways_7 (by decide) (fun c_7 => ?_) (fun c_7 => ?_)
  · have c_7 : r_1.toInt = 0 := xI_eq rfl rfl c_7
    refine lv_ldc2 (v := (-1)) hx hb hown (hg (Cond.constantLong RX12 517 (-1)) m1874) dX12_ways_21 ?_
    exact W.lret (v := (-1)) hx hb hr (fun t ht _ => ⟨⟨(-1), G_2, rfl, (Q_ways_mk ⟨hB_G_2, hF, ⟨r_1, G_2, hX_5, (Or.inl ⟨c_7, ⟨rfl, rfl⟩⟩)⟩⟩), wd_t ht hW⟩, hS.F ht⟩) hS.2.2 dX12_ways_24
  · have c_7 : r_1.toInt ≠ 0 := xI_ne rfl rfl c_7
    refine lv_iload hx hb dX12_ways_10 (lv_at hl 4 rfl) ?_
    refine lv_iconst (v := 1) hx hb dX12_ways_12 (by decide) ?_
    refine lv_bipush (v := 60) hx hb dX12_ways_13 (by decide) ?_
    have qc_8 : (1 : Int32).toInt = 1 := rfl
    have qc_9 : (60 : Int32).toInt = 60 := rfl
    refine S_calli (va_runS (As := [.int p3, .int 1, .int 60]) (rest := []) ⟨hx, hb, hml, hown, hts⟩ (n_isIn l D k A a z G_2 p3 1 60 ) (va_cwS 3 hts (gd_S hgd m1781 m1782 m131 m1783) rfl rfl rfl (by decide +kernel) ⟨Nat.le_of_ble_eq_true rfl, Nat.le_of_ble_eq_true rfl⟩) (pre_S hW hB_G_2 hK hZ hS) rfl rfl hl.1 rfl (lv_room (Nat.le_of_ble_eq_true rfl)) dX12_ways_15 ⟨Nat.le_of_ble_eq_true rfl, Nat.le_of_ble_eq_true rfl⟩) hS (fun r_10 G_11 H locs hpo hW hS => ?_)
    have hX_14 : Q_isIn p3 1 60 G_2 r_10 G_11 := hpo
    obtain ⟨hB_G_11, hq_12, f_15, hp_13, -⟩ := hpo
    have hF := hF.call hq_12 (by decide) (by decide)
    refine lv_if_ne (tgt := 25) hx hb dX12_ways_18 (by decide) (fun c_16 => ?_) (fun c_16 => ?_)
    · have c_16 : r_10.toInt ≠ 0 := xI_ne rfl rfl c_16
      refine lv_aload_n hx hb dX12_ways_25 rfl (lv_at hl 0 rfl) ?_
      refine lv_iload_n hx hb dX12_ways_26 rfl (lv_at hl 1 rfl) ?_
      refine lv_iload_n hx hb dX12_ways_27 rfl (lv_at hl 2 rfl) ?_
      refine lv_iload_n hx hb dX12_ways_28 rfl (lv_at hl 3 rfl) ?_
      have g_17 : gP G_11 = gP G := gP_fr (rs := []) (fs := []) ((Fr.rf.call hq_3 (by decide) (by decide)).call hq_12 (by decide) (by decide)) (by decide) (by decide)
      refine S_callv (va_runV (As := [.int p0, .int p1, .int p2]) (rest := []) ⟨hx, hb, hml, hown, hts⟩ (n_layStreet l D k A a z G_11 p0 p1 p2 ⟨by omega, by omega⟩ ⟨by omega, by omega⟩ (by omega)) (cwV 3 hts (gd_V hgd m1834 m1836 m91 m131 m1837) rfl rfl rfl (by decide +kernel) ⟨Nat.le_of_ble_eq_true rfl, Nat.le_of_ble_eq_true rfl⟩) (pre_V hW hB_G_11 hK hZ hS kd_66 rfl) rfl rfl hl.1 rfl (lv_room (Nat.le_of_ble_eq_true rfl)) dX12_ways_29 ⟨Nat.le_of_ble_eq_true rfl, Nat.le_of_ble_eq_true rfl⟩) hS (fun G_19 H locs hpo hW hS => ?_)
      have hX_22 : Q_layStreet p0 p1 p2 G_11 G_19 := hpo
      obtain ⟨hB_G_19, hq_20, hp_21, -⟩ := hpo
      have hF := hF.call hq_20 (by decide) (by decide)
      refine lv_iconst (v := 0) hx hb dX12_ways_32 (by decide) ?_
      refine lv_istore (lv' := [(5, .int 0), (0, .ref (a 66)), (1, .int p0), (2, .int p1), (3, .int p2), (4, .int p3)]) hx hb dX12_ways_33 hl (by decide) rfl (fun ls hl => ?_)
      have qc_29 : (0 : Int32).toInt = 0 := rfl
      refine loop_N (Inv := fun n H locs ls => ∃ (G_23 : GS) (x_27 : Int32), (n : Int) = 1024 - x_27.toInt ∧ (0 ≤ x_27.toInt ∧ x_27.toInt ≤ 1024) ∧ Rc (St_n_ways_1 G_19) (0, G_19) (x_27, G_23) ∧ Wd D k A a G_23 H ∧ Bd G_23 ∧ Fr [101, 102, 76, 97, 98] [(66, 59), (66, 60), (66, 61), (66, 62), (66, 63)] G G_23 ∧ Fr [101] [] G_19 G_23 ∧ va_S A s.heap H locs ∧ lv_has ls 8 [(5, .int x_27), (0, .ref (a 66)), (4, .int p3)]) (fun n_26 H locs ls ih_25 hI => ?_) (1024 - 0 : Int).toNat ⟨G_19, 0, (Int.toNat_of_nonneg (by omega)), ⟨by omega, by omega⟩, Rc.rf, hW, hB_G_19, hF, Fr.rf, hS, lv_sub hl [0, 1, 5] rfl⟩
      obtain ⟨G_23, x_27, hn_31, f_30, hX_28, hW, hB_G_23, hF, hq_24, hS, hl⟩ := hI
      refine lv_iload hx hb dX12_ways_35 (lv_at hl 0 rfl) ?_
      refine lv_sipush (v := 1024) hx hb dX12_ways_37 (by decide) ?_
      refine lv_icmp_ge (tgt := 101) hx hb dX12_ways_40 (by decide) (fun c_32 => ?_) (fun c_32 => ?_)
      · have c_32 : 1024 ≤ x_27.toInt := xI_le rfl rfl c_32
        refine lv_iconst (v := 1) hx hb dX12_ways_101 (by decide) ?_
        refine lv_istore (lv' := [(5, .int 1), (0, .ref (a 66)), (4, .int p3)]) hx hb dX12_ways_102 hl (by decide) rfl (fun ls hl => ?_)
        have qc_39 : (1 : Int32).toInt = 1 := rfl
        refine loop_N (Inv := fun n H locs ls => ∃ (G_33 : GS) (x_37 : Int32), (n : Int) = 60 - x_37.toInt ∧ (1 ≤ x_37.toInt ∧ x_37.toInt ≤ 60) ∧ Rc (St_n_ways_2 p3) (1, G_23) (x_37, G_33) ∧ Wd D k A a G_33 H ∧ Bd G_33 ∧ Fr [101, 102, 76, 97, 98] [(66, 59), (66, 60), (66, 61), (66, 62), (66, 63)] G G_33 ∧ Fr [101, 102] [] G_23 G_33 ∧ va_S A s.heap H locs ∧ lv_has ls 8 [(5, .int x_37), (0, .ref (a 66)), (4, .int p3)]) (fun n_36 H locs ls ih_35 hI => ?_) (60 - 1 : Int).toNat ⟨G_23, 1, (Int.toNat_of_nonneg (by omega)), ⟨by omega, by omega⟩, Rc.rf, hW, hB_G_23, hF, Fr.rf, hS, lv_sub hl [0, 1, 2] rfl⟩
        obtain ⟨G_33, x_37, hn_41, f_40, hX_38, hW, hB_G_33, hF, hq_34, hS, hl⟩ := hI
        refine lv_iload hx hb dX12_ways_104 (lv_at hl 0 rfl) ?_
        refine lv_iload hx hb dX12_ways_106 (lv_at hl 2 rfl) ?_
        refine lv_icmp_ge (tgt := 219) hx hb dX12_ways_108 (by decide) (fun c_42 => ?_) (fun c_42 => ?_)
        · have c_42 : p3.toInt ≤ x_37.toInt := xI_le rfl rfl c_42
          refine lv_lconst (v := 0) hx hb dX12_ways_219 (by decide) ?_
          refine lv_lstore (lv' := [(5, .long 0), (0, .ref (a 66)), (4, .int p3)]) hx hb dX12_ways_220 hl (by decide) rfl (fun ls hl => ?_)
          refine lv_iconst (v := 0) hx hb dX12_ways_222 (by decide) ?_
          refine lv_istore (lv' := [(7, .int 0), (5, .long 0), (0, .ref (a 66)), (4, .int p3)]) hx hb dX12_ways_223 hl (by decide) rfl (fun ls hl => ?_)
          have qc_50 : (0 : Int32).toInt = 0 := rfl
          refine loop_N (Inv := fun n H locs ls => ∃ (G_43 : GS) (x_47 : Int32) (x_48 : Int64), (n : Int) = 800 - x_47.toInt ∧ (0 ≤ x_47.toInt ∧ x_47.toInt ≤ 800) ∧ Rc (St_n_ways_3) (0, 0, G_33) (x_47, x_48, G_43) ∧ Wd D k A a G_43 H ∧ Bd G_43 ∧ Fr [101, 102, 76, 97, 98] [(66, 59), (66, 60), (66, 61), (66, 62), (66, 63)] G G_43 ∧ Fr [] [] G_33 G_43 ∧ va_S A s.heap H locs ∧ lv_has ls 8 [(7, .int x_47), (5, .long x_48), (0, .ref (a 66))]) (fun n_46 H locs ls ih_45 hI => ?_) (800 - 0 : Int).toNat ⟨G_33, 0, 0, (Int.toNat_of_nonneg (by omega)), ⟨by omega, by omega⟩, Rc.rf, hW, hB_G_33, hF, Fr.rf, hS, lv_sub hl [0, 1, 2] rfl⟩
          obtain ⟨G_43, x_47, x_48, hn_52, f_51, hX_49, hW, hB_G_43, hF, hq_44, hS, hl⟩ := hI
          refine lv_iload hx hb dX12_ways_225 (lv_at hl 0 rfl) ?_
          refine lv_sipush (v := 800) hx hb dX12_ways_227 (by decide) ?_
          refine lv_icmp_ge (tgt := 265) hx hb dX12_ways_230 (by decide) (fun c_53 => ?_) (fun c_53 => ?_)
          · have c_53 : 800 ≤ x_47.toInt := xI_le rfl rfl c_53
            refine lv_lload hx hb dX12_ways_265 (lv_at hl 1 rfl) ?_
            exact W.lret (v := x_48) hx hb hr (fun t ht _ => ⟨⟨x_48, G_43, rfl, (Q_ways_mk ⟨hB_G_43, hF, ⟨r_1, G_2, hX_5, (Or.inr ⟨c_7, ⟨r_10, G_11, hX_14, (Or.inr ⟨c_16, ⟨G_19, hX_22, ⟨x_27, G_23, hX_28, f_30, hB_G_23, hq_24, ⟨c_32, ⟨x_37, G_33, hX_38, f_40, hB_G_33, hq_34, ⟨c_42, ⟨x_47, x_48, G_43, hX_49, f_51, hB_G_43, hq_44, ⟨c_53, ⟨rfl, rfl⟩⟩⟩⟩⟩⟩⟩⟩⟩)⟩⟩)⟩⟩), wd_t ht hW⟩, hS.F ht⟩) hS.2.2 dX12_ways_267
          · have c_53 : x_47.toInt < 800 := xI_nle rfl rfl c_53
            refine lv_aload_n hx hb dX12_ways_233 rfl (lv_at hl 2 rfl) ?_
            refine lv_iload hx hb dX12_ways_234 (lv_at hl 0 rfl) ?_
            refine lv_iconst (v := 2) hx hb dX12_ways_236 (by decide) ?_
            refine lv_idiv hx hb dX12_ways_237 (by decide) ?_
            refine lv_topi (fun y_54 ey_54 => ?_)
            have ty_54 : y_54.toInt = x_47.toInt / 2 := xI_div rfl ey_54 (by decide) (by omega)
            have b_55 : 0 ≤ (G_19.1 66 59).toInt ∧ (G_19.1 66 59).toInt ≤ 400 := hB_G_19.i 66 59 rfl rfl
            have g_56 : (G_43.1 66 59).toInt = (G_19.1 66 59).toInt := by rw [show G_43.1 66 59 = (G_19.1 66 59) from ((hq_44.i 66 59 (by decide) (by decide)).trans ((hq_34.i 66 59 (by decide) (by decide)).trans (hq_24.i 66 59 (by decide) (by decide))))]
            have b_57 : 0 ≤ (G_19.1 66 60).toInt ∧ (G_19.1 66 60).toInt ≤ 12 := hB_G_19.i 66 60 rfl rfl
            have g_58 : (G_43.1 66 60).toInt = (G_19.1 66 60).toInt := by rw [show G_43.1 66 60 = (G_19.1 66 60) from ((hq_44.i 66 60 (by decide) (by decide)).trans ((hq_34.i 66 60 (by decide) (by decide)).trans (hq_24.i 66 60 (by decide) (by decide))))]
            have b_59 : 0 ≤ (G_19.1 66 62).toInt ∧ (G_19.1 66 62).toInt ≤ 60 := hB_G_19.i 66 62 rfl rfl
            have g_60 : (G_43.1 66 62).toInt = (G_19.1 66 62).toInt := by rw [show G_43.1 66 62 = (G_19.1 66 62) from ((hq_44.i 66 62 (by decide) (by decide)).trans ((hq_34.i 66 62 (by decide) (by decide)).trans (hq_24.i 66 62 (by decide) (by decide))))]
            refine S_calli (va_runV (As := [.int y_54]) (rest := []) ⟨hx, hb, hml, hown, hts⟩ (n_isEnd l D k A a z G_43 y_54 ⟨by omega, by omega⟩) (cwV 1 hts (gd_V hgd m1854 m1856 m95 m131 m1857) rfl rfl rfl (by decide +kernel) ⟨Nat.le_of_ble_eq_true rfl, Nat.le_of_ble_eq_true rfl⟩) (pre_V hW hB_G_43 hK hZ hS kd_66 rfl) rfl rfl hl.1 rfl (lv_room (Nat.le_of_ble_eq_true rfl)) dX12_ways_238 ⟨Nat.le_of_ble_eq_true rfl, Nat.le_of_ble_eq_true rfl⟩) hS (fun r_61 G_62 H locs hpo hW hS => ?_)
            have hX_65 : Q_isEnd y_54 G_43 r_61 G_62 := hpo
            obtain ⟨hB_G_62, hq_63, f_66, hp_64, -⟩ := hpo
            have hF := hF.call hq_63 (by decide) (by decide)
            refine lv_if_eq (tgt := 259) hx hb dX12_ways_241 (by decide) (fun c_67 => ?_) (fun c_67 => ?_)
            · have c_67 : r_61.toInt = 0 := xI_eq rfl rfl c_67
              obtain ⟨y_68, ey_68⟩ : ∃ q, q = x_47 + 1 := ⟨_, rfl⟩
              have ty_68 : y_68.toInt = x_47.toInt + 1 := xI_add rfl rfl ey_68 (by omega) (by omega)
              refine lv_iinc (v := y_68) (lv' := [(7, .int y_68), (5, .long x_48), (0, .ref (a 66))]) hx hb dX12_ways_259 hl (k := 0) rfl (by rw [ey_68]; rfl) (by decide) rfl (fun ls hl => ?_)
              refine lv_goto (tgt := 225) hx hb dX12_ways_262 (by decide) ?_
              exact ih_45 (800 - y_68.toInt : Int).toNat (by omega) _ _ _ ⟨G_62, y_68, x_48, (Int.toNat_of_nonneg (by omega)), ⟨by omega, by omega⟩, (hX_49.st (St_n_ways_3_mk ⟨x_47, x_48, G_43, y_68, x_48, G_62, rfl, rfl, f_51, hB_G_43, ⟨c_53, ⟨y_54, ty_54, ⟨r_61, G_62, hX_65, (Or.inl ⟨c_67, ⟨y_68, ty_68, ⟨rfl, rfl, rfl⟩⟩⟩)⟩⟩⟩⟩)), hW, hB_G_62, hF, ((Fr.rf.call hq_44 (by decide) (by decide)).call hq_63 (by decide) (by decide)), hS, lv_sub hl [0, 1, 2] rfl⟩
            · have c_67 : r_61.toInt ≠ 0 := xI_ne rfl rfl c_67
              refine lv_lload hx hb dX12_ways_244 (lv_at hl 1 rfl) ?_
              refine lv_aload_n hx hb dX12_ways_246 rfl (lv_at hl 2 rfl) ?_
              refine S_getR (n := 101) (C := RX12) (T := TX12) (N := 89) hx hb hg iX12 hown hK hW kd_66 rfl 67 (by decide) (hg (Cond.fieldLink RX12 124 "SlabWalkModel" "ways" "[J") m1381) (fun _ h9 => h9) rfl dX12_ways_247 ?_
              refine lv_iload hx hb dX12_ways_250 (lv_at hl 0 rfl) ?_
              refine S_lald hx hb hK hW kd_101 (vin (by omega) (by omega)) dX12_ways_252 (fun y_69 ey_69 => ?_)
              refine lv_ladd hx hb dX12_ways_253 ?_
              refine lv_topl (fun y_70 ey_70 => ?_)
              refine S_calll (va_runS (As := [.long y_70]) (rest := []) ⟨hx, hb, hml, hown, hts⟩ (n_capped l D k A a z G_62 y_70 ) (va_cwS 1 hts (gd_S hgd m1879 m1880 m131 m1881) rfl rfl rfl (by decide +kernel) ⟨Nat.le_of_ble_eq_true rfl, Nat.le_of_ble_eq_true rfl⟩) (pre_S hW hB_G_62 hK hZ hS) rfl rfl hl.1 rfl (lv_room (Nat.le_of_ble_eq_true rfl)) dX12_ways_254 ⟨Nat.le_of_ble_eq_true rfl, Nat.le_of_ble_eq_true rfl⟩) hS (fun r_71 G_72 H locs hpo hW hS => ?_)
              have hX_75 : Q_capped y_70 G_62 r_71 G_72 := hpo
              obtain ⟨hB_G_72, hq_73, -⟩ := hpo
              have hF := hF.call hq_73 (by decide) (by decide)
              refine lv_lstore (lv' := [(5, .long r_71), (7, .int x_47), (0, .ref (a 66))]) hx hb dX12_ways_257 hl (by decide) rfl (fun ls hl => ?_)
              obtain ⟨y_76, ey_76⟩ : ∃ q, q = x_47 + 1 := ⟨_, rfl⟩
              have ty_76 : y_76.toInt = x_47.toInt + 1 := xI_add rfl rfl ey_76 (by omega) (by omega)
              refine lv_iinc (v := y_76) (lv' := [(7, .int y_76), (5, .long r_71), (0, .ref (a 66))]) hx hb dX12_ways_259 hl (k := 1) rfl (by rw [ey_76]; rfl) (by decide) rfl (fun ls hl => ?_)
              refine lv_goto (tgt := 225) hx hb dX12_ways_262 (by decide) ?_
              exact ih_45 (800 - y_76.toInt : Int).toNat (by omega) _ _ _ ⟨G_72, y_76, r_71, (Int.toNat_of_nonneg (by omega)), ⟨by omega, by omega⟩, (hX_49.st (St_n_ways_3_mk ⟨x_47, x_48, G_43, y_76, r_71, G_72, rfl, rfl, f_51, hB_G_43, ⟨c_53, ⟨y_54, ty_54, ⟨r_61, G_62, hX_65, (Or.inr ⟨c_67, ⟨y_69, ey_69, ⟨y_70, ey_70, ⟨r_71, G_72, hX_75, ⟨y_76, ty_76, ⟨rfl, rfl, rfl⟩⟩⟩⟩⟩⟩)⟩⟩⟩⟩)), hW, hB_G_72, hF, (((Fr.rf.call hq_44 (by decide) (by decide)).call hq_63 (by decide) (by decide)).call hq_73 (by decide) (by decide)), hS, lv_sub hl [0, 1, 2] rfl⟩
        · have c_42 : x_37.toInt < p3.toInt := xI_nle rfl rfl c_42
          refine lv_iconst (v := 0) hx hb dX12_ways_111 (by decide) ?_
          refine lv_istore (lv' := [(6, .int 0), (5, .int x_37), (0, .ref (a 66)), (4, .int p3)]) hx hb dX12_ways_112 hl (by decide) rfl (fun ls hl => ?_)
          have qc_83 : (0 : Int32).toInt = 0 := rfl
          refine loop_N (Inv := fun n H locs ls => ∃ (G_77 : GS) (x_81 : Int32), (n : Int) = 1024 - x_81.toInt ∧ (0 ≤ x_81.toInt ∧ x_81.toInt ≤ 1024) ∧ Rc (St_n_ways_4) (0, G_33) (x_81, G_77) ∧ Wd D k A a G_77 H ∧ Bd G_77 ∧ Fr [101, 102, 76, 97, 98] [(66, 59), (66, 60), (66, 61), (66, 62), (66, 63)] G G_77 ∧ Fr [102] [] G_33 G_77 ∧ va_S A s.heap H locs ∧ lv_has ls 8 [(6, .int x_81), (5, .int x_37), (0, .ref (a 66)), (4, .int p3)]) (fun n_80 H locs ls ih_79 hI => ?_) (1024 - 0 : Int).toNat ⟨G_33, 0, (Int.toNat_of_nonneg (by omega)), ⟨by omega, by omega⟩, Rc.rf, hW, hB_G_33, hF, Fr.rf, hS, lv_sub hl [0, 1, 2, 3] rfl⟩
          obtain ⟨G_77, x_81, hn_85, f_84, hX_82, hW, hB_G_77, hF, hq_78, hS, hl⟩ := hI
          refine lv_iload hx hb dX12_ways_114 (lv_at hl 0 rfl) ?_
          refine lv_sipush (v := 1024) hx hb dX12_ways_116 (by decide) ?_
          refine lv_icmp_ge (tgt := 136) hx hb dX12_ways_119 (by decide) (fun c_86 => ?_) (fun c_86 => ?_)
          · have c_86 : 1024 ≤ x_81.toInt := xI_le rfl rfl c_86
            refine lv_iconst (v := 0) hx hb dX12_ways_136 (by decide) ?_
            refine lv_istore (lv' := [(6, .int 0), (5, .int x_37), (0, .ref (a 66)), (4, .int p3)]) hx hb dX12_ways_137 hl (by decide) rfl (fun ls hl => ?_)
            have qc_93 : (0 : Int32).toInt = 0 := rfl
            refine loop_N (Inv := fun n H locs ls => ∃ (G_87 : GS) (x_91 : Int32), (n : Int) = 800 - x_91.toInt ∧ (0 ≤ x_91.toInt ∧ x_91.toInt ≤ 800) ∧ Rc (St_n_ways_5) (0, G_77) (x_91, G_87) ∧ Wd D k A a G_87 H ∧ Bd G_87 ∧ Fr [101, 102, 76, 97, 98] [(66, 59), (66, 60), (66, 61), (66, 62), (66, 63)] G G_87 ∧ Fr [102] [] G_77 G_87 ∧ va_S A s.heap H locs ∧ lv_has ls 8 [(6, .int x_91), (5, .int x_37), (0, .ref (a 66)), (4, .int p3)]) (fun n_90 H locs ls ih_89 hI => ?_) (800 - 0 : Int).toNat ⟨G_77, 0, (Int.toNat_of_nonneg (by omega)), ⟨by omega, by omega⟩, Rc.rf, hW, hB_G_77, hF, Fr.rf, hS, lv_sub hl [0, 1, 2, 3] rfl⟩
            obtain ⟨G_87, x_91, hn_95, f_94, hX_92, hW, hB_G_87, hF, hq_88, hS, hl⟩ := hI
            refine lv_iload hx hb dX12_ways_139 (lv_at hl 0 rfl) ?_
            refine lv_sipush (v := 800) hx hb dX12_ways_141 (by decide) ?_
            refine lv_icmp_ge (tgt := 182) hx hb dX12_ways_144 (by decide) (fun c_96 => ?_) (fun c_96 => ?_)
            · have c_96 : 800 ≤ x_91.toInt := xI_le rfl rfl c_96
              refine lv_iconst (v := 0) hx hb dX12_ways_182 (by decide) ?_
              refine lv_istore (lv' := [(6, .int 0), (5, .int x_37), (0, .ref (a 66)), (4, .int p3)]) hx hb dX12_ways_183 hl (by decide) rfl (fun ls hl => ?_)
              have qc_103 : (0 : Int32).toInt = 0 := rfl
              refine loop_N (Inv := fun n H locs ls => ∃ (G_97 : GS) (x_101 : Int32), (n : Int) = 1024 - x_101.toInt ∧ (0 ≤ x_101.toInt ∧ x_101.toInt ≤ 1024) ∧ Rc (St_n_ways_6) (0, G_87) (x_101, G_97) ∧ Wd D k A a G_97 H ∧ Bd G_97 ∧ Fr [101, 102, 76, 97, 98] [(66, 59), (66, 60), (66, 61), (66, 62), (66, 63)] G G_97 ∧ Fr [101] [] G_87 G_97 ∧ va_S A s.heap H locs ∧ lv_has ls 8 [(6, .int x_101), (5, .int x_37), (0, .ref (a 66)), (4, .int p3)]) (fun n_100 H locs ls ih_99 hI => ?_) (1024 - 0 : Int).toNat ⟨G_87, 0, (Int.toNat_of_nonneg (by omega)), ⟨by omega, by omega⟩, Rc.rf, hW, hB_G_87, hF, Fr.rf, hS, lv_sub hl [0, 1, 2, 3] rfl⟩
              obtain ⟨G_97, x_101, hn_105, f_104, hX_102, hW, hB_G_97, hF, hq_98, hS, hl⟩ := hI
              refine lv_iload hx hb dX12_ways_185 (lv_at hl 0 rfl) ?_
              refine lv_sipush (v := 1024) hx hb dX12_ways_187 (by decide) ?_
              refine lv_icmp_ge (tgt := 213) hx hb dX12_ways_190 (by decide) (fun c_106 => ?_) (fun c_106 => ?_)
              · have c_106 : 1024 ≤ x_101.toInt := xI_le rfl rfl c_106
                obtain ⟨y_107, ey_107⟩ : ∃ q, q = x_37 + 1 := ⟨_, rfl⟩
                have ty_107 : y_107.toInt = x_37.toInt + 1 := xI_add rfl rfl ey_107 (by omega) (by omega)
                refine lv_iinc (v := y_107) (lv' := [(5, .int y_107), (6, .int x_101), (0, .ref (a 66)), (4, .int p3)]) hx hb dX12_ways_213 hl (k := 1) rfl (by rw [ey_107]; rfl) (by decide) rfl (fun ls hl => ?_)
                refine lv_goto (tgt := 104) hx hb dX12_ways_216 (by decide) ?_
                exact ih_35 (60 - y_107.toInt : Int).toNat (by omega) _ _ _ ⟨G_97, y_107, (Int.toNat_of_nonneg (by omega)), ⟨by omega, by omega⟩, (hX_38.st (St_n_ways_2_mk ⟨x_37, G_33, y_107, G_97, rfl, rfl, f_40, hB_G_33, ⟨c_42, ⟨x_81, G_77, hX_82, f_84, hB_G_77, hq_78, ⟨c_86, ⟨x_91, G_87, hX_92, f_94, hB_G_87, hq_88, ⟨c_96, ⟨x_101, G_97, hX_102, f_104, hB_G_97, hq_98, ⟨c_106, ⟨y_107, ty_107, ⟨rfl, rfl⟩⟩⟩⟩⟩⟩⟩⟩⟩⟩)), hW, hB_G_97, hF, ((((Fr.rf.call hq_34 (by decide) (by decide)).call hq_78 (by decide) (by decide)).call hq_88 (by decide) (by decide)).call hq_98 (by decide) (by decide)), hS, lv_sub hl [0, 2, 3] rfl⟩
              · have c_106 : x_101.toInt < 1024 := xI_nle rfl rfl c_106
                refine lv_aload_n hx hb dX12_ways_193 rfl (lv_at hl 2 rfl) ?_
                refine S_getR (n := 101) (C := RX12) (T := TX12) (N := 89) hx hb hg iX12 hown hK hW kd_66 rfl 67 (by decide) (hg (Cond.fieldLink RX12 124 "SlabWalkModel" "ways" "[J") m1381) (fun _ h9 => h9) rfl dX12_ways_194 ?_
                refine lv_iload hx hb dX12_ways_197 (lv_at hl 0 rfl) ?_
                refine lv_aload_n hx hb dX12_ways_199 rfl (lv_at hl 2 rfl) ?_
                refine S_getR (n := 102) (C := RX12) (T := TX12) (N := 89) hx hb hg iX12 hown hK hW kd_66 rfl 68 (by decide) (hg (Cond.fieldLink RX12 127 "SlabWalkModel" "next" "[J") m1382) (fun _ h9 => h9) rfl dX12_ways_200 ?_
                refine lv_iload hx hb dX12_ways_203 (lv_at hl 0 rfl) ?_
                refine S_lald hx hb hK hW kd_102 (vin (by omega) (by omega)) dX12_ways_205 (fun y_108 ey_108 => ?_)
                refine S_last hx hb hK hW hS kd_101 (vin (by omega) (by omega)) dX12_ways_206 (fun G_109 H locs eG_109 hW hS => ?_)
                have hB_G_109 : Bd G_109 := hB_G_97.putl eG_109
                have hF := hF.putl eG_109 (Or.inl (by decide))
                obtain ⟨y_110, ey_110⟩ : ∃ q, q = x_101 + 1 := ⟨_, rfl⟩
                have ty_110 : y_110.toInt = x_101.toInt + 1 := xI_add rfl rfl ey_110 (by omega) (by omega)
                refine lv_iinc (v := y_110) (lv' := [(6, .int y_110), (5, .int x_37), (0, .ref (a 66)), (4, .int p3)]) hx hb dX12_ways_207 hl (k := 0) rfl (by rw [ey_110]; rfl) (by decide) rfl (fun ls hl => ?_)
                refine lv_goto (tgt := 185) hx hb dX12_ways_210 (by decide) ?_
                exact ih_99 (1024 - y_110.toInt : Int).toNat (by omega) _ _ _ ⟨G_109, y_110, (Int.toNat_of_nonneg (by omega)), ⟨by omega, by omega⟩, (hX_102.st (St_n_ways_6_mk ⟨x_101, G_97, y_110, G_109, rfl, rfl, f_104, hB_G_97, ⟨c_106, ⟨y_108, ey_108, ⟨y_110, ty_110, ⟨rfl, (Fr.rf.putl eG_109 (Or.inl (by decide))), rl_ast eG_109⟩⟩⟩⟩⟩)), hW, hB_G_109, hF, ((Fr.rf.call hq_98 (by decide) (by decide)).putl eG_109 (Or.inl (by decide))), hS, lv_sub hl [0, 1, 2, 3] rfl⟩
            · have c_96 : x_91.toInt < 800 := xI_nle rfl rfl c_96
              refine lv_aload_n hx hb dX12_ways_147 rfl (lv_at hl 2 rfl) ?_
              refine S_getR (n := 101) (C := RX12) (T := TX12) (N := 89) hx hb hg iX12 hown hK hW kd_66 rfl 67 (by decide) (hg (Cond.fieldLink RX12 124 "SlabWalkModel" "ways" "[J") m1381) (fun _ h9 => h9) rfl dX12_ways_148 ?_
              refine lv_iload hx hb dX12_ways_151 (lv_at hl 0 rfl) ?_
              refine S_lald hx hb hK hW kd_101 (vin (by omega) (by omega)) dX12_ways_153 (fun y_111 ey_111 => ?_)
              refine lv_lconst (v := 0) hx hb dX12_ways_154 (by decide) ?_
              refine W.lcmp hx hb dX12_ways_155 ?_
              refine lv_topi (fun y_112 ey_112 => ?_)
              have ty_112 := lcmp_rng ey_112
              refine lv_if_le (tgt := 176) hx hb dX12_ways_156 (by decide) (fun c_113 => ?_) (fun c_113 => ?_)
              · have c_113 : y_112.toInt ≤ 0 := xI_le rfl rfl c_113
                obtain ⟨y_114, ey_114⟩ : ∃ q, q = x_91 + 1 := ⟨_, rfl⟩
                have ty_114 : y_114.toInt = x_91.toInt + 1 := xI_add rfl rfl ey_114 (by omega) (by omega)
                refine lv_iinc (v := y_114) (lv' := [(6, .int y_114), (5, .int x_37), (0, .ref (a 66)), (4, .int p3)]) hx hb dX12_ways_176 hl (k := 0) rfl (by rw [ey_114]; rfl) (by decide) rfl (fun ls hl => ?_)
                refine lv_goto (tgt := 139) hx hb dX12_ways_179 (by decide) ?_
                exact ih_89 (800 - y_114.toInt : Int).toNat (by omega) _ _ _ ⟨G_87, y_114, (Int.toNat_of_nonneg (by omega)), ⟨by omega, by omega⟩, (hX_92.st (St_n_ways_5_mk ⟨x_91, G_87, y_114, G_87, rfl, rfl, f_94, hB_G_87, ⟨c_96, ⟨y_111, ey_111, ⟨y_112, ey_112, (Or.inl ⟨c_113, ⟨y_114, ty_114, ⟨rfl, rfl⟩⟩⟩)⟩⟩⟩⟩)), hW, hB_G_87, hF, (Fr.rf.call hq_88 (by decide) (by decide)), hS, lv_sub hl [0, 1, 2, 3] rfl⟩
              · have c_113 : 0 < y_112.toInt := xI_nle rfl rfl c_113
                refine lv_aload_n hx hb dX12_ways_159 rfl (lv_at hl 2 rfl) ?_
                refine lv_iload hx hb dX12_ways_160 (lv_at hl 0 rfl) ?_
                refine lv_iconst (v := 2) hx hb dX12_ways_162 (by decide) ?_
                refine lv_idiv hx hb dX12_ways_163 (by decide) ?_
                refine lv_topi (fun y_115 ey_115 => ?_)
                have ty_115 : y_115.toInt = x_91.toInt / 2 := xI_div rfl ey_115 (by decide) (by omega)
                have b_116 : 0 ≤ (G_19.1 66 59).toInt ∧ (G_19.1 66 59).toInt ≤ 400 := hB_G_19.i 66 59 rfl rfl
                have g_117 : (G_87.1 66 59).toInt = (G_19.1 66 59).toInt := by rw [show G_87.1 66 59 = (G_19.1 66 59) from ((hq_88.i 66 59 (by decide) (by decide)).trans ((hq_78.i 66 59 (by decide) (by decide)).trans ((hq_34.i 66 59 (by decide) (by decide)).trans (hq_24.i 66 59 (by decide) (by decide)))))]
                have b_118 : 0 ≤ (G_19.1 66 60).toInt ∧ (G_19.1 66 60).toInt ≤ 12 := hB_G_19.i 66 60 rfl rfl
                have g_119 : (G_87.1 66 60).toInt = (G_19.1 66 60).toInt := by rw [show G_87.1 66 60 = (G_19.1 66 60) from ((hq_88.i 66 60 (by decide) (by decide)).trans ((hq_78.i 66 60 (by decide) (by decide)).trans ((hq_34.i 66 60 (by decide) (by decide)).trans (hq_24.i 66 60 (by decide) (by decide)))))]
                have b_120 : 0 ≤ (G_19.1 66 62).toInt ∧ (G_19.1 66 62).toInt ≤ 60 := hB_G_19.i 66 62 rfl rfl
                have g_121 : (G_87.1 66 62).toInt = (G_19.1 66 62).toInt := by rw [show G_87.1 66 62 = (G_19.1 66 62) from ((hq_88.i 66 62 (by decide) (by decide)).trans ((hq_78.i 66 62 (by decide) (by decide)).trans ((hq_34.i 66 62 (by decide) (by decide)).trans (hq_24.i 66 62 (by decide) (by decide)))))]
                refine S_calli (va_runV (As := [.int y_115]) (rest := []) ⟨hx, hb, hml, hown, hts⟩ (n_isEnd l D k A a z G_87 y_115 ⟨by omega, by omega⟩) (cwV 1 hts (gd_V hgd m1854 m1856 m95 m131 m1857) rfl rfl rfl (by decide +kernel) ⟨Nat.le_of_ble_eq_true rfl, Nat.le_of_ble_eq_true rfl⟩) (pre_V hW hB_G_87 hK hZ hS kd_66 rfl) rfl rfl hl.1 rfl (lv_room (Nat.le_of_ble_eq_true rfl)) dX12_ways_164 ⟨Nat.le_of_ble_eq_true rfl, Nat.le_of_ble_eq_true rfl⟩) hS (fun r_122 G_123 H locs hpo hW hS => ?_)
                have hX_126 : Q_isEnd y_115 G_87 r_122 G_123 := hpo
                obtain ⟨hB_G_123, hq_124, f_127, hp_125, -⟩ := hpo
                have hF := hF.call hq_124 (by decide) (by decide)
                refine lv_if_ne (tgt := 176) hx hb dX12_ways_167 (by decide) (fun c_128 => ?_) (fun c_128 => ?_)
                · have c_128 : r_122.toInt ≠ 0 := xI_ne rfl rfl c_128
                  obtain ⟨y_129, ey_129⟩ : ∃ q, q = x_91 + 1 := ⟨_, rfl⟩
                  have ty_129 : y_129.toInt = x_91.toInt + 1 := xI_add rfl rfl ey_129 (by omega) (by omega)
                  refine lv_iinc (v := y_129) (lv' := [(6, .int y_129), (5, .int x_37), (0, .ref (a 66)), (4, .int p3)]) hx hb dX12_ways_176 hl (k := 0) rfl (by rw [ey_129]; rfl) (by decide) rfl (fun ls hl => ?_)
                  refine lv_goto (tgt := 139) hx hb dX12_ways_179 (by decide) ?_
                  exact ih_89 (800 - y_129.toInt : Int).toNat (by omega) _ _ _ ⟨G_123, y_129, (Int.toNat_of_nonneg (by omega)), ⟨by omega, by omega⟩, (hX_92.st (St_n_ways_5_mk ⟨x_91, G_87, y_129, G_123, rfl, rfl, f_94, hB_G_87, ⟨c_96, ⟨y_111, ey_111, ⟨y_112, ey_112, (Or.inr ⟨c_113, ⟨y_115, ty_115, ⟨r_122, G_123, hX_126, (Or.inr ⟨c_128, ⟨y_129, ty_129, ⟨rfl, rfl⟩⟩⟩)⟩⟩⟩)⟩⟩⟩⟩)), hW, hB_G_123, hF, ((Fr.rf.call hq_88 (by decide) (by decide)).call hq_124 (by decide) (by decide)), hS, lv_sub hl [0, 1, 2, 3] rfl⟩
                · have c_128 : r_122.toInt = 0 := xI_eq rfl rfl c_128
                  refine lv_aload_n hx hb dX12_ways_170 rfl (lv_at hl 2 rfl) ?_
                  refine lv_iload hx hb dX12_ways_171 (lv_at hl 0 rfl) ?_
                  refine S_callv (va_runV (As := [.int x_91]) (rest := []) ⟨hx, hb, hml, hown, hts⟩ (n_goOn l D k A a z G_123 x_91 ⟨by omega, by omega⟩) (cwV 1 hts (gd_V hgd m1875 m1877 m98 m131 m1878) rfl rfl rfl (by decide +kernel) ⟨Nat.le_of_ble_eq_true rfl, Nat.le_of_ble_eq_true rfl⟩) (pre_V hW hB_G_123 hK hZ hS kd_66 rfl) rfl rfl hl.1 rfl (lv_room (Nat.le_of_ble_eq_true rfl)) dX12_ways_173 ⟨Nat.le_of_ble_eq_true rfl, Nat.le_of_ble_eq_true rfl⟩) hS (fun G_131 H locs hpo hW hS => ?_)
                  have hX_134 : Q_goOn x_91 G_123 G_131 := hpo
                  obtain ⟨hB_G_131, hq_132, -⟩ := hpo
                  have hF := hF.call hq_132 (by decide) (by decide)
                  obtain ⟨y_135, ey_135⟩ : ∃ q, q = x_91 + 1 := ⟨_, rfl⟩
                  have ty_135 : y_135.toInt = x_91.toInt + 1 := xI_add rfl rfl ey_135 (by omega) (by omega)
                  refine lv_iinc (v := y_135) (lv' := [(6, .int y_135), (5, .int x_37), (0, .ref (a 66)), (4, .int p3)]) hx hb dX12_ways_176 hl (k := 0) rfl (by rw [ey_135]; rfl) (by decide) rfl (fun ls hl => ?_)
                  refine lv_goto (tgt := 139) hx hb dX12_ways_179 (by decide) ?_
                  exact ih_89 (800 - y_135.toInt : Int).toNat (by omega) _ _ _ ⟨G_131, y_135, (Int.toNat_of_nonneg (by omega)), ⟨by omega, by omega⟩, (hX_92.st (St_n_ways_5_mk ⟨x_91, G_87, y_135, G_131, rfl, rfl, f_94, hB_G_87, ⟨c_96, ⟨y_111, ey_111, ⟨y_112, ey_112, (Or.inr ⟨c_113, ⟨y_115, ty_115, ⟨r_122, G_123, hX_126, (Or.inl ⟨c_128, ⟨G_131, hX_134, ⟨y_135, ty_135, ⟨rfl, rfl⟩⟩⟩⟩)⟩⟩⟩)⟩⟩⟩⟩)), hW, hB_G_131, hF, (((Fr.rf.call hq_88 (by decide) (by decide)).call hq_124 (by decide) (by decide)).call hq_132 (by decide) (by decide)), hS, lv_sub hl [0, 1, 2, 3] rfl⟩
          · have c_86 : x_81.toInt < 1024 := xI_nle rfl rfl c_86
            refine lv_aload_n hx hb dX12_ways_122 rfl (lv_at hl 2 rfl) ?_
            refine S_getR (n := 102) (C := RX12) (T := TX12) (N := 89) hx hb hg iX12 hown hK hW kd_66 rfl 68 (by decide) (hg (Cond.fieldLink RX12 127 "SlabWalkModel" "next" "[J") m1382) (fun _ h9 => h9) rfl dX12_ways_123 ?_
            refine lv_iload hx hb dX12_ways_126 (lv_at hl 0 rfl) ?_
            refine lv_lconst (v := 0) hx hb dX12_ways_128 (by decide) ?_
            refine S_last hx hb hK hW hS kd_102 (vin (by omega) (by omega)) dX12_ways_129 (fun G_136 H locs eG_136 hW hS => ?_)
            have hB_G_136 : Bd G_136 := hB_G_77.putl eG_136
            have hF := hF.putl eG_136 (Or.inl (by decide))
            obtain ⟨y_137, ey_137⟩ : ∃ q, q = x_81 + 1 := ⟨_, rfl⟩
            have ty_137 : y_137.toInt = x_81.toInt + 1 := xI_add rfl rfl ey_137 (by omega) (by omega)
            refine lv_iinc (v := y_137) (lv' := [(6, .int y_137), (5, .int x_37), (0, .ref (a 66)), (4, .int p3)]) hx hb dX12_ways_130 hl (k := 0) rfl (by rw [ey_137]; rfl) (by decide) rfl (fun ls hl => ?_)
            refine lv_goto (tgt := 114) hx hb dX12_ways_133 (by decide) ?_
            exact ih_79 (1024 - y_137.toInt : Int).toNat (by omega) _ _ _ ⟨G_136, y_137, (Int.toNat_of_nonneg (by omega)), ⟨by omega, by omega⟩, (hX_82.st (St_n_ways_4_mk ⟨x_81, G_77, y_137, G_136, rfl, rfl, f_84, hB_G_77, ⟨c_86, ⟨y_137, ty_137, ⟨rfl, (Fr.rf.putl eG_136 (Or.inl (by decide))), rl_ast eG_136⟩⟩⟩⟩)), hW, hB_G_136, hF, ((Fr.rf.call hq_78 (by decide) (by decide)).putl eG_136 (Or.inl (by decide))), hS, lv_sub hl [0, 1, 2, 3] rfl⟩
      · have c_32 : x_27.toInt < 1024 := xI_nle rfl rfl c_32
        refine lv_aload_n hx hb dX12_ways_43 rfl (lv_at hl 1 rfl) ?_
        refine S_getR (n := 101) (C := RX12) (T := TX12) (N := 89) hx hb hg iX12 hown hK hW kd_66 rfl 67 (by decide) (hg (Cond.fieldLink RX12 124 "SlabWalkModel" "ways" "[J") m1381) (fun _ h9 => h9) rfl dX12_ways_44 ?_
        refine lv_iload hx hb dX12_ways_47 (lv_at hl 0 rfl) ?_
        refine lv_iload hx hb dX12_ways_49 (lv_at hl 0 rfl) ?_
        refine lv_iconst (v := 2) hx hb dX12_ways_51 (by decide) ?_
        refine lv_irem hx hb dX12_ways_52 (by decide) ?_
        refine lv_topi (fun y_138 ey_138 => ?_)
        have ty_138 : y_138.toInt = x_27.toInt % 2 := xI_mod rfl ey_138 (by decide) (by omega)
        refine lv_if_ne (tgt := 93) hx hb dX12_ways_53 (by decide) (fun c_139 => ?_) (fun c_139 => ?_)
        · have c_139 : y_138.toInt ≠ 0 := xI_ne rfl rfl c_139
          refine lv_lconst (v := 0) hx hb dX12_ways_93 (by decide) ?_
          refine S_last hx hb hK hW hS kd_101 (vin (by omega) (by omega)) dX12_ways_94 (fun G_140 H locs eG_140 hW hS => ?_)
          have hB_G_140 : Bd G_140 := hB_G_23.putl eG_140
          have hF := hF.putl eG_140 (Or.inl (by decide))
          obtain ⟨y_141, ey_141⟩ : ∃ q, q = x_27 + 1 := ⟨_, rfl⟩
          have ty_141 : y_141.toInt = x_27.toInt + 1 := xI_add rfl rfl ey_141 (by omega) (by omega)
          refine lv_iinc (v := y_141) (lv' := [(5, .int y_141), (0, .ref (a 66)), (4, .int p3)]) hx hb dX12_ways_95 hl (k := 0) rfl (by rw [ey_141]; rfl) (by decide) rfl (fun ls hl => ?_)
          refine lv_goto (tgt := 35) hx hb dX12_ways_98 (by decide) ?_
          exact ih_25 (1024 - y_141.toInt : Int).toNat (by omega) _ _ _ ⟨G_140, y_141, (Int.toNat_of_nonneg (by omega)), ⟨by omega, by omega⟩, (hX_28.st (St_n_ways_1_mk ⟨x_27, G_23, y_141, G_140, rfl, rfl, f_30, hB_G_23, ⟨c_32, ⟨y_138, ty_138, (Or.inr ⟨c_139, ⟨y_141, ty_141, ⟨rfl, (Fr.rf.putl eG_140 (Or.inl (by decide))), rl_ast eG_140⟩⟩⟩)⟩⟩⟩)), hW, hB_G_140, hF, ((Fr.rf.call hq_24 (by decide) (by decide)).putl eG_140 (Or.inl (by decide))), hS, lv_sub hl [0, 1, 2] rfl⟩
        · have c_139 : y_138.toInt = 0 := xI_eq rfl rfl c_139
          refine lv_iload hx hb dX12_ways_56 (lv_at hl 0 rfl) ?_
          refine lv_iconst (v := 2) hx hb dX12_ways_58 (by decide) ?_
          refine lv_idiv hx hb dX12_ways_59 (by decide) ?_
          refine lv_topi (fun y_142 ey_142 => ?_)
          have ty_142 : y_142.toInt = x_27.toInt / 2 := xI_div rfl ey_142 (by decide) (by omega)
          refine lv_aload_n hx hb dX12_ways_60 rfl (lv_at hl 1 rfl) ?_
          have b_143 : 0 ≤ (G_19.1 66 62).toInt ∧ (G_19.1 66 62).toInt ≤ 60 := hB_G_19.i 66 62 rfl rfl
          refine S_getI (v := (G_19.1 66 62)) (C := RX12) (T := TX12) (N := 89) hx hb hg iX12 hown hK hW kd_66 rfl 62 (by decide) (hg (Cond.fieldLink RX12 478 "SlabWalkModel" "most" "I") m1376) (fun _ h9 => h9) rfl (hq_24.i 66 62 (by decide) (by decide)) dX12_ways_61 ?_
          refine lv_icmp_ge (tgt := 93) hx hb dX12_ways_64 (by decide) (fun c_144 => ?_) (fun c_144 => ?_)
          · have c_144 : (G_19.1 66 62).toInt ≤ y_142.toInt := xI_le rfl rfl c_144
            refine lv_lconst (v := 0) hx hb dX12_ways_93 (by decide) ?_
            refine S_last hx hb hK hW hS kd_101 (vin (by omega) (by omega)) dX12_ways_94 (fun G_145 H locs eG_145 hW hS => ?_)
            have hB_G_145 : Bd G_145 := hB_G_23.putl eG_145
            have hF := hF.putl eG_145 (Or.inl (by decide))
            obtain ⟨y_146, ey_146⟩ : ∃ q, q = x_27 + 1 := ⟨_, rfl⟩
            have ty_146 : y_146.toInt = x_27.toInt + 1 := xI_add rfl rfl ey_146 (by omega) (by omega)
            refine lv_iinc (v := y_146) (lv' := [(5, .int y_146), (0, .ref (a 66)), (4, .int p3)]) hx hb dX12_ways_95 hl (k := 0) rfl (by rw [ey_146]; rfl) (by decide) rfl (fun ls hl => ?_)
            refine lv_goto (tgt := 35) hx hb dX12_ways_98 (by decide) ?_
            exact ih_25 (1024 - y_146.toInt : Int).toNat (by omega) _ _ _ ⟨G_145, y_146, (Int.toNat_of_nonneg (by omega)), ⟨by omega, by omega⟩, (hX_28.st (St_n_ways_1_mk ⟨x_27, G_23, y_146, G_145, rfl, rfl, f_30, hB_G_23, ⟨c_32, ⟨y_138, ty_138, (Or.inl ⟨c_139, ⟨y_142, ty_142, (Or.inl ⟨c_144, ⟨y_146, ty_146, ⟨rfl, (Fr.rf.putl eG_145 (Or.inl (by decide))), rl_ast eG_145⟩⟩⟩)⟩⟩)⟩⟩⟩)), hW, hB_G_145, hF, ((Fr.rf.call hq_24 (by decide) (by decide)).putl eG_145 (Or.inl (by decide))), hS, lv_sub hl [0, 1, 2] rfl⟩
          · have c_144 : y_142.toInt < (G_19.1 66 62).toInt := xI_nle rfl rfl c_144
            refine lv_iload hx hb dX12_ways_67 (lv_at hl 0 rfl) ?_
            refine lv_iconst (v := 2) hx hb dX12_ways_69 (by decide) ?_
            refine lv_idiv hx hb dX12_ways_70 (by decide) ?_
            refine lv_topi (fun y_147 ey_147 => ?_)
            have ty_147 : y_147.toInt = x_27.toInt / 2 := xI_div rfl ey_147 (by decide) (by omega)
            refine lv_sipush (v := 400) hx hb dX12_ways_71 (by decide) ?_
            refine lv_icmp_ge (tgt := 93) hx hb dX12_ways_74 (by decide) (fun c_148 => ?_) (fun c_148 => ?_)
            · have c_148 : 400 ≤ y_147.toInt := xI_le rfl rfl c_148
              refine lv_lconst (v := 0) hx hb dX12_ways_93 (by decide) ?_
              refine S_last hx hb hK hW hS kd_101 (vin (by omega) (by omega)) dX12_ways_94 (fun G_149 H locs eG_149 hW hS => ?_)
              have hB_G_149 : Bd G_149 := hB_G_23.putl eG_149
              have hF := hF.putl eG_149 (Or.inl (by decide))
              obtain ⟨y_150, ey_150⟩ : ∃ q, q = x_27 + 1 := ⟨_, rfl⟩
              have ty_150 : y_150.toInt = x_27.toInt + 1 := xI_add rfl rfl ey_150 (by omega) (by omega)
              refine lv_iinc (v := y_150) (lv' := [(5, .int y_150), (0, .ref (a 66)), (4, .int p3)]) hx hb dX12_ways_95 hl (k := 0) rfl (by rw [ey_150]; rfl) (by decide) rfl (fun ls hl => ?_)
              refine lv_goto (tgt := 35) hx hb dX12_ways_98 (by decide) ?_
              exact ih_25 (1024 - y_150.toInt : Int).toNat (by omega) _ _ _ ⟨G_149, y_150, (Int.toNat_of_nonneg (by omega)), ⟨by omega, by omega⟩, (hX_28.st (St_n_ways_1_mk ⟨x_27, G_23, y_150, G_149, rfl, rfl, f_30, hB_G_23, ⟨c_32, ⟨y_138, ty_138, (Or.inl ⟨c_139, ⟨y_142, ty_142, (Or.inr ⟨c_144, ⟨y_147, ty_147, (Or.inl ⟨c_148, ⟨y_150, ty_150, ⟨rfl, (Fr.rf.putl eG_149 (Or.inl (by decide))), rl_ast eG_149⟩⟩⟩)⟩⟩)⟩⟩)⟩⟩⟩)), hW, hB_G_149, hF, ((Fr.rf.call hq_24 (by decide) (by decide)).putl eG_149 (Or.inl (by decide))), hS, lv_sub hl [0, 1, 2] rfl⟩
            · have c_148 : y_147.toInt < 400 := xI_nle rfl rfl c_148
              refine lv_aload_n hx hb dX12_ways_77 rfl (lv_at hl 1 rfl) ?_
              refine S_getR (n := 98) (C := RX12) (T := TX12) (N := 89) hx hb hg iX12 hown hK hW kd_66 rfl 58 (by decide) (hg (Cond.fieldLink RX12 115 "SlabWalkModel" "lawful" "[Z") m1372) (fun _ h9 => h9) rfl dX12_ways_78 ?_
              refine lv_iload hx hb dX12_ways_81 (lv_at hl 0 rfl) ?_
              refine lv_iconst (v := 2) hx hb dX12_ways_83 (by decide) ?_
              refine lv_idiv hx hb dX12_ways_84 (by decide) ?_
              refine lv_topi (fun y_151 ey_151 => ?_)
              have ty_151 : y_151.toInt = x_27.toInt / 2 := xI_div rfl ey_151 (by decide) (by omega)
              refine S_zald hx hb hK hW kd_98 (vin (by omega) (by omega)) dX12_ways_85 (fun y_152 ey_152 => ?_)
              have ty_152 := hB_G_23.law ey_152
              refine lv_if_eq (tgt := 93) hx hb dX12_ways_86 (by decide) (fun c_153 => ?_) (fun c_153 => ?_)
              · have c_153 : y_152.toInt = 0 := xI_eq rfl rfl c_153
                refine lv_lconst (v := 0) hx hb dX12_ways_93 (by decide) ?_
                refine S_last hx hb hK hW hS kd_101 (vin (by omega) (by omega)) dX12_ways_94 (fun G_154 H locs eG_154 hW hS => ?_)
                have hB_G_154 : Bd G_154 := hB_G_23.putl eG_154
                have hF := hF.putl eG_154 (Or.inl (by decide))
                obtain ⟨y_155, ey_155⟩ : ∃ q, q = x_27 + 1 := ⟨_, rfl⟩
                have ty_155 : y_155.toInt = x_27.toInt + 1 := xI_add rfl rfl ey_155 (by omega) (by omega)
                refine lv_iinc (v := y_155) (lv' := [(5, .int y_155), (0, .ref (a 66)), (4, .int p3)]) hx hb dX12_ways_95 hl (k := 0) rfl (by rw [ey_155]; rfl) (by decide) rfl (fun ls hl => ?_)
                refine lv_goto (tgt := 35) hx hb dX12_ways_98 (by decide) ?_
                exact ih_25 (1024 - y_155.toInt : Int).toNat (by omega) _ _ _ ⟨G_154, y_155, (Int.toNat_of_nonneg (by omega)), ⟨by omega, by omega⟩, (hX_28.st (St_n_ways_1_mk ⟨x_27, G_23, y_155, G_154, rfl, rfl, f_30, hB_G_23, ⟨c_32, ⟨y_138, ty_138, (Or.inl ⟨c_139, ⟨y_142, ty_142, (Or.inr ⟨c_144, ⟨y_147, ty_147, (Or.inr ⟨c_148, ⟨y_151, ty_151, ⟨y_152, ey_152, (Or.inl ⟨c_153, ⟨y_155, ty_155, ⟨rfl, (Fr.rf.putl eG_154 (Or.inl (by decide))), rl_ast eG_154⟩⟩⟩)⟩⟩⟩)⟩⟩)⟩⟩)⟩⟩⟩)), hW, hB_G_154, hF, ((Fr.rf.call hq_24 (by decide) (by decide)).putl eG_154 (Or.inl (by decide))), hS, lv_sub hl [0, 1, 2] rfl⟩
              · have c_153 : y_152.toInt ≠ 0 := xI_ne rfl rfl c_153
                refine lv_lconst (v := 1) hx hb dX12_ways_89 (by decide) ?_
                refine lv_goto (tgt := 94) hx hb dX12_ways_90 (by decide) ?_
                refine S_last hx hb hK hW hS kd_101 (vin (by omega) (by omega)) dX12_ways_94 (fun G_156 H locs eG_156 hW hS => ?_)
                have hB_G_156 : Bd G_156 := hB_G_23.putl eG_156
                have hF := hF.putl eG_156 (Or.inl (by decide))
                obtain ⟨y_157, ey_157⟩ : ∃ q, q = x_27 + 1 := ⟨_, rfl⟩
                have ty_157 : y_157.toInt = x_27.toInt + 1 := xI_add rfl rfl ey_157 (by omega) (by omega)
                refine lv_iinc (v := y_157) (lv' := [(5, .int y_157), (0, .ref (a 66)), (4, .int p3)]) hx hb dX12_ways_95 hl (k := 0) rfl (by rw [ey_157]; rfl) (by decide) rfl (fun ls hl => ?_)
                refine lv_goto (tgt := 35) hx hb dX12_ways_98 (by decide) ?_
                exact ih_25 (1024 - y_157.toInt : Int).toNat (by omega) _ _ _ ⟨G_156, y_157, (Int.toNat_of_nonneg (by omega)), ⟨by omega, by omega⟩, (hX_28.st (St_n_ways_1_mk ⟨x_27, G_23, y_157, G_156, rfl, rfl, f_30, hB_G_23, ⟨c_32, ⟨y_138, ty_138, (Or.inl ⟨c_139, ⟨y_142, ty_142, (Or.inr ⟨c_144, ⟨y_147, ty_147, (Or.inr ⟨c_148, ⟨y_151, ty_151, ⟨y_152, ey_152, (Or.inr ⟨c_153, ⟨y_157, ty_157, ⟨rfl, (Fr.rf.putl eG_156 (Or.inl (by decide))), rl_ast eG_156⟩⟩⟩)⟩⟩⟩)⟩⟩)⟩⟩)⟩⟩⟩)), hW, hB_G_156, hF, ((Fr.rf.call hq_24 (by decide) (by decide)).putl eG_156 (Or.inl (by decide))), hS, lv_sub hl [0, 1, 2] rfl⟩
    · have c_16 : r_10.toInt = 0 := xI_eq rfl rfl c_16
      refine lv_ldc2 (v := (-1)) hx hb hown (hg (Cond.constantLong RX12 517 (-1)) m1874) dX12_ways_21 ?_
      exact W.lret (v := (-1)) hx hb hr (fun t ht _ => ⟨⟨(-1), G_11, rfl, (Q_ways_mk ⟨hB_G_11, hF, ⟨r_1, G_2, hX_5, (Or.inr ⟨c_7, ⟨r_10, G_11, hX_14, (Or.inl ⟨c_16, ⟨rfl, rfl⟩⟩)⟩⟩)⟩⟩), wd_t ht hW⟩, hS.F ht⟩) hS.2.2 dX12_ways_24
