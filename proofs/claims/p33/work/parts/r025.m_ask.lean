theorem m97 : Cond.selects RX12 yX12_lay yX12_lay ∈ gd := gd_mem 97 (by decide +kernel) (by decide +kernel)
theorem m98 : Cond.selects RX12 yX12_goOn yX12_goOn ∈ gd := gd_mem 98 (by decide +kernel) (by decide +kernel)
theorem m99 : Cond.selects RX12 yX12_isEven yX12_isEven ∈ gd := gd_mem 99 (by decide +kernel) (by decide +kernel)
theorem m100 : Cond.selects RX12 yX12_comesToEnd yX12_comesToEnd ∈ gd := gd_mem 100 (by decide +kernel) (by decide +kernel)
theorem m1866 : Cond.methodLink RX12 512 yX12_lay ∈ gd := gdk_8 70 rfl rfl
theorem m1868 : Cond.instanceMethod yX12_lay ∈ gd := gdk_8 72 rfl rfl
theorem m1869 : Cond.code yX12_lay cX12_lay 2 none ∈ gd := gdk_8 73 rfl rfl
theorem m1875 : Cond.methodLink RX12 519 yX12_goOn ∈ gd := gdk_8 79 rfl rfl
theorem m1877 : Cond.instanceMethod yX12_goOn ∈ gd := gdk_8 81 rfl rfl
theorem m1878 : Cond.code yX12_goOn cX12_goOn 5 none ∈ gd := gdk_8 82 rfl rfl
theorem m1887 : Cond.methodLink RX12 526 yX12_isEven ∈ gd := gdk_8 91 rfl rfl
theorem m1889 : Cond.instanceMethod yX12_isEven ∈ gd := gdk_8 93 rfl rfl
theorem m1890 : Cond.code yX12_isEven cX12_isEven 6 (some .boolean) ∈ gd := gdk_8 94 rfl rfl
theorem m1899 : Cond.methodLink RX12 529 yX12_comesToEnd ∈ gd := gdk_8 103 rfl rfl
theorem m1901 : Cond.instanceMethod yX12_comesToEnd ∈ gd := gdk_8 105 rfl rfl
theorem m1902 : Cond.code yX12_comesToEnd cX12_comesToEnd 4 (some .boolean) ∈ gd := gdk_8 106 rfl rfl
theorem dX12_comesToEnd_0 : decode cX12_comesToEnd 0 = .ok (.iload_n 1, 1) := dq_of (by decide +kernel)
theorem dX12_comesToEnd_1 : decode cX12_comesToEnd 1 = .ok (.istore_n 3, 1) := dq_of (by decide +kernel)
theorem dX12_comesToEnd_2 : decode cX12_comesToEnd 2 = .ok (.aload_n 0, 1) := dq_of (by decide +kernel)
theorem dX12_comesToEnd_3 : decode cX12_comesToEnd 3 = .ok (.getfield 115, 3) := dq_of (by decide +kernel)
theorem dX12_comesToEnd_6 : decode cX12_comesToEnd 6 = .ok (.iload_n 3, 1) := dq_of (by decide +kernel)
theorem dX12_comesToEnd_7 : decode cX12_comesToEnd 7 = .ok (.baload, 1) := dq_of (by decide +kernel)
theorem dX12_comesToEnd_8 : decode cX12_comesToEnd 8 = .ok (.ifCond .eq 18, 3) := dq_of (by decide +kernel)
theorem dX12_comesToEnd_11 : decode cX12_comesToEnd 11 = .ok (.aload_n 0, 1) := dq_of (by decide +kernel)
theorem dX12_comesToEnd_12 : decode cX12_comesToEnd 12 = .ok (.iload_n 3, 1) := dq_of (by decide +kernel)
theorem dX12_comesToEnd_13 : decode cX12_comesToEnd 13 = .ok (.invokevirtual 499, 3) := dq_of (by decide +kernel)
theorem dX12_comesToEnd_16 : decode cX12_comesToEnd 16 = .ok (.ifCond .ne 10, 3) := dq_of (by decide +kernel)
theorem dX12_comesToEnd_19 : decode cX12_comesToEnd 19 = .ok (.iload_n 3, 1) := dq_of (by decide +kernel)
theorem dX12_comesToEnd_20 : decode cX12_comesToEnd 20 = .ok (.iload_n 2, 1) := dq_of (by decide +kernel)
theorem dX12_comesToEnd_21 : decode cX12_comesToEnd 21 = .ok (.iadd, 1) := dq_of (by decide +kernel)
theorem dX12_comesToEnd_22 : decode cX12_comesToEnd 22 = .ok (.istore_n 3, 1) := dq_of (by decide +kernel)
theorem dX12_comesToEnd_23 : decode cX12_comesToEnd 23 = .ok (.goto (-21), 3) := dq_of (by decide +kernel)
theorem dX12_comesToEnd_26 : decode cX12_comesToEnd 26 = .ok (.aload_n 0, 1) := dq_of (by decide +kernel)
theorem dX12_comesToEnd_27 : decode cX12_comesToEnd 27 = .ok (.getfield 115, 3) := dq_of (by decide +kernel)
theorem dX12_comesToEnd_30 : decode cX12_comesToEnd 30 = .ok (.iload_n 3, 1) := dq_of (by decide +kernel)
theorem dX12_comesToEnd_31 : decode cX12_comesToEnd 31 = .ok (.baload, 1) := dq_of (by decide +kernel)
theorem dX12_comesToEnd_32 : decode cX12_comesToEnd 32 = .ok (.ireturn, 1) := dq_of (by decide +kernel)
theorem dX12_even_0 : decode cX12_even 0 = .ok (.aload_n 0, 1) := dq_of (by decide +kernel)
theorem dX12_even_1 : decode cX12_even 1 = .ok (.iload_n 1, 1) := dq_of (by decide +kernel)
theorem dX12_even_2 : decode cX12_even 2 = .ok (.iload_n 2, 1) := dq_of (by decide +kernel)
theorem dX12_even_3 : decode cX12_even 3 = .ok (.iload_n 3, 1) := dq_of (by decide +kernel)
theorem dX12_even_4 : decode cX12_even 4 = .ok (.invokevirtual 490, 3) := dq_of (by decide +kernel)
theorem dX12_even_7 : decode cX12_even 7 = .ok (.ifCond .eq 24, 3) := dq_of (by decide +kernel)
theorem dX12_even_10 : decode cX12_even 10 = .ok (.aload_n 0, 1) := dq_of (by decide +kernel)
theorem dX12_even_11 : decode cX12_even 11 = .ok (.iload_n 2, 1) := dq_of (by decide +kernel)
theorem dX12_even_12 : decode cX12_even 12 = .ok (.iload 4, 2) := dq_of (by decide +kernel)
theorem dX12_even_14 : decode cX12_even 14 = .ok (.invokevirtual 456, 3) := dq_of (by decide +kernel)
theorem dX12_even_17 : decode cX12_even 17 = .ok (.ifCond .eq 14, 3) := dq_of (by decide +kernel)
theorem dX12_even_20 : decode cX12_even 20 = .ok (.iload 5, 2) := dq_of (by decide +kernel)
theorem dX12_even_22 : decode cX12_even 22 = .ok (.iconst 1, 1) := dq_of (by decide +kernel)
theorem dX12_even_23 : decode cX12_even 23 = .ok (.bipush 99, 2) := dq_of (by decide +kernel)
theorem dX12_even_25 : decode cX12_even 25 = .ok (.invokestatic 449, 3) := dq_of (by decide +kernel)
theorem dX12_even_28 : decode cX12_even 28 = .ok (.ifCond .ne 5, 3) := dq_of (by decide +kernel)
theorem dX12_even_31 : decode cX12_even 31 = .ok (.iconst (-1), 1) := dq_of (by decide +kernel)
theorem dX12_even_32 : decode cX12_even 32 = .ok (.ireturn, 1) := dq_of (by decide +kernel)
theorem dX12_even_33 : decode cX12_even 33 = .ok (.aload_n 0, 1) := dq_of (by decide +kernel)
theorem dX12_even_34 : decode cX12_even 34 = .ok (.iload_n 1, 1) := dq_of (by decide +kernel)
theorem dX12_even_35 : decode cX12_even 35 = .ok (.iload_n 2, 1) := dq_of (by decide +kernel)
theorem dX12_even_36 : decode cX12_even 36 = .ok (.iload_n 3, 1) := dq_of (by decide +kernel)
theorem dX12_even_37 : decode cX12_even 37 = .ok (.invokevirtual 493, 3) := dq_of (by decide +kernel)
theorem dX12_even_40 : decode cX12_even 40 = .ok (.iconst 0, 1) := dq_of (by decide +kernel)
theorem dX12_even_41 : decode cX12_even 41 = .ok (.istore 6, 2) := dq_of (by decide +kernel)
theorem dX12_even_43 : decode cX12_even 43 = .ok (.iload 4, 2) := dq_of (by decide +kernel)
theorem dX12_even_45 : decode cX12_even 45 = .ok (.istore 7, 2) := dq_of (by decide +kernel)
theorem dX12_even_47 : decode cX12_even 47 = .ok (.iload 7, 2) := dq_of (by decide +kernel)
theorem dX12_even_49 : decode cX12_even 49 = .ok (.sipush 400, 3) := dq_of (by decide +kernel)
theorem dX12_even_52 : decode cX12_even 52 = .ok (.if_icmp .ge 26, 3) := dq_of (by decide +kernel)
theorem dX12_even_55 : decode cX12_even 55 = .ok (.aload_n 0, 1) := dq_of (by decide +kernel)
theorem dX12_even_56 : decode cX12_even 56 = .ok (.getfield 115, 3) := dq_of (by decide +kernel)
theorem dX12_even_59 : decode cX12_even 59 = .ok (.iload 7, 2) := dq_of (by decide +kernel)
theorem dX12_even_61 : decode cX12_even 61 = .ok (.baload, 1) := dq_of (by decide +kernel)
theorem dX12_even_62 : decode cX12_even 62 = .ok (.ifCond .eq 16, 3) := dq_of (by decide +kernel)
theorem dX12_even_65 : decode cX12_even 65 = .ok (.iinc 6 1, 3) := dq_of (by decide +kernel)
theorem dX12_even_68 : decode cX12_even 68 = .ok (.iload 7, 2) := dq_of (by decide +kernel)
theorem dX12_even_70 : decode cX12_even 70 = .ok (.iload 5, 2) := dq_of (by decide +kernel)
theorem dX12_even_72 : decode cX12_even 72 = .ok (.iadd, 1) := dq_of (by decide +kernel)
theorem dX12_even_73 : decode cX12_even 73 = .ok (.istore 7, 2) := dq_of (by decide +kernel)
theorem dX12_even_75 : decode cX12_even 75 = .ok (.goto (-28), 3) := dq_of (by decide +kernel)
theorem dX12_even_78 : decode cX12_even 78 = .ok (.iload 6, 2) := dq_of (by decide +kernel)
theorem dX12_even_80 : decode cX12_even 80 = .ok (.ireturn, 1) := dq_of (by decide +kernel)
theorem dX12_evenest_0 : decode cX12_evenest 0 = .ok (.aload_n 0, 1) := dq_of (by decide +kernel)
theorem dX12_evenest_1 : decode cX12_evenest 1 = .ok (.iload_n 1, 1) := dq_of (by decide +kernel)
theorem dX12_evenest_2 : decode cX12_evenest 2 = .ok (.iload_n 2, 1) := dq_of (by decide +kernel)
theorem dX12_evenest_3 : decode cX12_evenest 3 = .ok (.iload_n 3, 1) := dq_of (by decide +kernel)
theorem dX12_evenest_4 : decode cX12_evenest 4 = .ok (.invokevirtual 490, 3) := dq_of (by decide +kernel)
theorem dX12_evenest_7 : decode cX12_evenest 7 = .ok (.ifCond .eq 13, 3) := dq_of (by decide +kernel)
theorem dX12_evenest_10 : decode cX12_evenest 10 = .ok (.iload 4, 2) := dq_of (by decide +kernel)
theorem dX12_evenest_12 : decode cX12_evenest 12 = .ok (.iconst 0, 1) := dq_of (by decide +kernel)
theorem dX12_evenest_13 : decode cX12_evenest 13 = .ok (.iconst 1, 1) := dq_of (by decide +kernel)
theorem dX12_evenest_14 : decode cX12_evenest 14 = .ok (.invokestatic 449, 3) := dq_of (by decide +kernel)
theorem dX12_evenest_17 : decode cX12_evenest 17 = .ok (.ifCond .ne 5, 3) := dq_of (by decide +kernel)
theorem dX12_evenest_20 : decode cX12_evenest 20 = .ok (.iconst (-1), 1) := dq_of (by decide +kernel)
theorem dX12_evenest_21 : decode cX12_evenest 21 = .ok (.ireturn, 1) := dq_of (by decide +kernel)
theorem dX12_evenest_22 : decode cX12_evenest 22 = .ok (.aload_n 0, 1) := dq_of (by decide +kernel)
theorem dX12_evenest_23 : decode cX12_evenest 23 = .ok (.iload_n 1, 1) := dq_of (by decide +kernel)
theorem dX12_evenest_24 : decode cX12_evenest 24 = .ok (.iload_n 2, 1) := dq_of (by decide +kernel)
theorem dX12_evenest_25 : decode cX12_evenest 25 = .ok (.iload_n 3, 1) := dq_of (by decide +kernel)
theorem dX12_evenest_26 : decode cX12_evenest 26 = .ok (.invokevirtual 493, 3) := dq_of (by decide +kernel)
theorem dX12_evenest_29 : decode cX12_evenest 29 = .ok (.iconst 0, 1) := dq_of (by decide +kernel)
theorem dX12_evenest_30 : decode cX12_evenest 30 = .ok (.istore 5, 2) := dq_of (by decide +kernel)
theorem dX12_evenest_32 : decode cX12_evenest 32 = .ok (.iload 5, 2) := dq_of (by decide +kernel)
theorem dX12_evenest_34 : decode cX12_evenest 34 = .ok (.aload_n 0, 1) := dq_of (by decide +kernel)
theorem dX12_evenest_35 : decode cX12_evenest 35 = .ok (.getfield 478, 3) := dq_of (by decide +kernel)
theorem dX12_evenest_38 : decode cX12_evenest 38 = .ok (.aload_n 0, 1) := dq_of (by decide +kernel)
theorem dX12_evenest_39 : decode cX12_evenest 39 = .ok (.getfield 475, 3) := dq_of (by decide +kernel)
theorem dX12_evenest_42 : decode cX12_evenest 42 = .ok (.isub, 1) := dq_of (by decide +kernel)
theorem dX12_evenest_43 : decode cX12_evenest 43 = .ok (.if_icmp .gt 60, 3) := dq_of (by decide +kernel)
theorem dX12_evenest_46 : decode cX12_evenest 46 = .ok (.aload_n 0, 1) := dq_of (by decide +kernel)
theorem dX12_evenest_47 : decode cX12_evenest 47 = .ok (.getfield 475, 3) := dq_of (by decide +kernel)
theorem dX12_evenest_50 : decode cX12_evenest 50 = .ok (.istore 6, 2) := dq_of (by decide +kernel)
theorem dX12_evenest_52 : decode cX12_evenest 52 = .ok (.iload 6, 2) := dq_of (by decide +kernel)
theorem dX12_evenest_54 : decode cX12_evenest 54 = .ok (.iload 5, 2) := dq_of (by decide +kernel)
theorem dX12_evenest_56 : decode cX12_evenest 56 = .ok (.iadd, 1) := dq_of (by decide +kernel)
theorem dX12_evenest_57 : decode cX12_evenest 57 = .ok (.aload_n 0, 1) := dq_of (by decide +kernel)
theorem dX12_evenest_58 : decode cX12_evenest 58 = .ok (.getfield 478, 3) := dq_of (by decide +kernel)
theorem dX12_evenest_61 : decode cX12_evenest 61 = .ok (.if_icmp .gt 36, 3) := dq_of (by decide +kernel)
theorem dX12_evenest_64 : decode cX12_evenest 64 = .ok (.aload_n 0, 1) := dq_of (by decide +kernel)
theorem dX12_evenest_65 : decode cX12_evenest 65 = .ok (.iload 6, 2) := dq_of (by decide +kernel)
theorem dX12_evenest_67 : decode cX12_evenest 67 = .ok (.iload 6, 2) := dq_of (by decide +kernel)
theorem dX12_evenest_69 : decode cX12_evenest 69 = .ok (.iload 5, 2) := dq_of (by decide +kernel)
theorem dX12_evenest_71 : decode cX12_evenest 71 = .ok (.iadd, 1) := dq_of (by decide +kernel)
theorem dX12_evenest_72 : decode cX12_evenest 72 = .ok (.invokevirtual 526, 3) := dq_of (by decide +kernel)
theorem dX12_evenest_75 : decode cX12_evenest 75 = .ok (.ifCond .eq 16, 3) := dq_of (by decide +kernel)
theorem dX12_evenest_78 : decode cX12_evenest 78 = .ok (.iload 4, 2) := dq_of (by decide +kernel)
theorem dX12_evenest_80 : decode cX12_evenest 80 = .ok (.ifCond .ne 8, 3) := dq_of (by decide +kernel)
theorem dX12_evenest_83 : decode cX12_evenest 83 = .ok (.iload 5, 2) := dq_of (by decide +kernel)
theorem dX12_evenest_85 : decode cX12_evenest 85 = .ok (.goto 5, 3) := dq_of (by decide +kernel)
theorem dX12_evenest_88 : decode cX12_evenest 88 = .ok (.iload 6, 2) := dq_of (by decide +kernel)
theorem dX12_evenest_90 : decode cX12_evenest 90 = .ok (.ireturn, 1) := dq_of (by decide +kernel)
theorem dX12_evenest_91 : decode cX12_evenest 91 = .ok (.iinc 6 1, 3) := dq_of (by decide +kernel)
theorem dX12_evenest_94 : decode cX12_evenest 94 = .ok (.goto (-42), 3) := dq_of (by decide +kernel)
theorem dX12_evenest_97 : decode cX12_evenest 97 = .ok (.iinc 5 1, 3) := dq_of (by decide +kernel)
theorem dX12_evenest_100 : decode cX12_evenest 100 = .ok (.goto (-68), 3) := dq_of (by decide +kernel)
theorem dX12_evenest_103 : decode cX12_evenest 103 = .ok (.iconst (-1), 1) := dq_of (by decide +kernel)
theorem dX12_evenest_104 : decode cX12_evenest 104 = .ok (.ireturn, 1) := dq_of (by decide +kernel)
theorem dX12_evens_0 : decode cX12_evens 0 = .ok (.aload_n 0, 1) := dq_of (by decide +kernel)
theorem dX12_evens_1 : decode cX12_evens 1 = .ok (.iconst 0, 1) := dq_of (by decide +kernel)
theorem dX12_evens_2 : decode cX12_evens 2 = .ok (.putfield 446, 3) := dq_of (by decide +kernel)
theorem dX12_evens_5 : decode cX12_evens 5 = .ok (.aload_n 0, 1) := dq_of (by decide +kernel)
theorem dX12_evens_6 : decode cX12_evens 6 = .ok (.iload_n 1, 1) := dq_of (by decide +kernel)
theorem dX12_evens_7 : decode cX12_evens 7 = .ok (.iload_n 2, 1) := dq_of (by decide +kernel)
theorem dX12_evens_8 : decode cX12_evens 8 = .ok (.iload_n 3, 1) := dq_of (by decide +kernel)
theorem dX12_evens_9 : decode cX12_evens 9 = .ok (.invokevirtual 490, 3) := dq_of (by decide +kernel)
theorem dX12_evens_12 : decode cX12_evens 12 = .ok (.ifCond .ne 5, 3) := dq_of (by decide +kernel)
theorem dX12_evens_15 : decode cX12_evens 15 = .ok (.iconst (-1), 1) := dq_of (by decide +kernel)
theorem dX12_evens_16 : decode cX12_evens 16 = .ok (.ireturn, 1) := dq_of (by decide +kernel)
theorem dX12_evens_17 : decode cX12_evens 17 = .ok (.aload_n 0, 1) := dq_of (by decide +kernel)
theorem dX12_evens_18 : decode cX12_evens 18 = .ok (.iload_n 1, 1) := dq_of (by decide +kernel)
theorem dX12_evens_19 : decode cX12_evens 19 = .ok (.iload_n 2, 1) := dq_of (by decide +kernel)
theorem dX12_evens_20 : decode cX12_evens 20 = .ok (.iload_n 3, 1) := dq_of (by decide +kernel)
theorem dX12_evens_21 : decode cX12_evens 21 = .ok (.invokevirtual 493, 3) := dq_of (by decide +kernel)
theorem dX12_evens_24 : decode cX12_evens 24 = .ok (.aload_n 0, 1) := dq_of (by decide +kernel)
theorem dX12_evens_25 : decode cX12_evens 25 = .ok (.getfield 475, 3) := dq_of (by decide +kernel)
theorem dX12_evens_28 : decode cX12_evens 28 = .ok (.istore 4, 2) := dq_of (by decide +kernel)
theorem dX12_evens_30 : decode cX12_evens 30 = .ok (.iload 4, 2) := dq_of (by decide +kernel)
theorem dX12_evens_32 : decode cX12_evens 32 = .ok (.aload_n 0, 1) := dq_of (by decide +kernel)
theorem dX12_evens_33 : decode cX12_evens 33 = .ok (.getfield 478, 3) := dq_of (by decide +kernel)
theorem dX12_evens_36 : decode cX12_evens 36 = .ok (.if_icmp .gt 56, 3) := dq_of (by decide +kernel)
theorem dX12_evens_39 : decode cX12_evens 39 = .ok (.iconst 0, 1) := dq_of (by decide +kernel)
theorem dX12_evens_40 : decode cX12_evens 40 = .ok (.istore 5, 2) := dq_of (by decide +kernel)
theorem dX12_evens_42 : decode cX12_evens 42 = .ok (.iconst 0, 1) := dq_of (by decide +kernel)
theorem dX12_evens_43 : decode cX12_evens 43 = .ok (.istore 6, 2) := dq_of (by decide +kernel)
theorem dX12_evens_45 : decode cX12_evens 45 = .ok (.iload 6, 2) := dq_of (by decide +kernel)
theorem dX12_evens_47 : decode cX12_evens 47 = .ok (.aload_n 0, 1) := dq_of (by decide +kernel)
theorem dX12_evens_48 : decode cX12_evens 48 = .ok (.getfield 478, 3) := dq_of (by decide +kernel)
theorem dX12_evens_51 : decode cX12_evens 51 = .ok (.if_icmp .ge 24, 3) := dq_of (by decide +kernel)
theorem dX12_evens_54 : decode cX12_evens 54 = .ok (.iload 5, 2) := dq_of (by decide +kernel)
theorem dX12_evens_56 : decode cX12_evens 56 = .ok (.ifCond .ne 19, 3) := dq_of (by decide +kernel)
theorem dX12_evens_59 : decode cX12_evens 59 = .ok (.aload_n 0, 1) := dq_of (by decide +kernel)
theorem dX12_evens_60 : decode cX12_evens 60 = .ok (.iload 6, 2) := dq_of (by decide +kernel)
theorem dX12_evens_62 : decode cX12_evens 62 = .ok (.iload 4, 2) := dq_of (by decide +kernel)
theorem dX12_evens_64 : decode cX12_evens 64 = .ok (.invokevirtual 529, 3) := dq_of (by decide +kernel)
theorem dX12_evens_67 : decode cX12_evens 67 = .ok (.istore 5, 2) := dq_of (by decide +kernel)
theorem dX12_evens_69 : decode cX12_evens 69 = .ok (.iinc 6 1, 3) := dq_of (by decide +kernel)
theorem dX12_evens_72 : decode cX12_evens 72 = .ok (.goto (-27), 3) := dq_of (by decide +kernel)
theorem dX12_evens_75 : decode cX12_evens 75 = .ok (.iload 5, 2) := dq_of (by decide +kernel)
theorem dX12_evens_77 : decode cX12_evens 77 = .ok (.ifCond .eq 9, 3) := dq_of (by decide +kernel)
theorem dX12_evens_80 : decode cX12_evens 80 = .ok (.aload_n 0, 1) := dq_of (by decide +kernel)
theorem dX12_evens_81 : decode cX12_evens 81 = .ok (.iload 4, 2) := dq_of (by decide +kernel)
theorem dX12_evens_83 : decode cX12_evens 83 = .ok (.invokevirtual 512, 3) := dq_of (by decide +kernel)
theorem dX12_evens_86 : decode cX12_evens 86 = .ok (.iinc 4 1, 3) := dq_of (by decide +kernel)
theorem dX12_evens_89 : decode cX12_evens 89 = .ok (.goto (-59), 3) := dq_of (by decide +kernel)
theorem dX12_evens_92 : decode cX12_evens 92 = .ok (.aload_n 0, 1) := dq_of (by decide +kernel)
theorem dX12_evens_93 : decode cX12_evens 93 = .ok (.getfield 446, 3) := dq_of (by decide +kernel)
theorem dX12_evens_96 : decode cX12_evens 96 = .ok (.ireturn, 1) := dq_of (by decide +kernel)
theorem dX12_ways_0 : decode cX12_ways 0 = .ok (.aload_n 0, 1) := dq_of (by decide +kernel)
theorem dX12_ways_1 : decode cX12_ways 1 = .ok (.iload_n 1, 1) := dq_of (by decide +kernel)
theorem dX12_ways_2 : decode cX12_ways 2 = .ok (.iload_n 2, 1) := dq_of (by decide +kernel)
theorem dX12_ways_3 : decode cX12_ways 3 = .ok (.iload_n 3, 1) := dq_of (by decide +kernel)
theorem dX12_ways_4 : decode cX12_ways 4 = .ok (.invokevirtual 490, 3) := dq_of (by decide +kernel)
theorem dX12_ways_7 : decode cX12_ways 7 = .ok (.ifCond .eq 14, 3) := dq_of (by decide +kernel)
theorem dX12_ways_10 : decode cX12_ways 10 = .ok (.iload 4, 2) := dq_of (by decide +kernel)
theorem dX12_ways_12 : decode cX12_ways 12 = .ok (.iconst 1, 1) := dq_of (by decide +kernel)
theorem dX12_ways_13 : decode cX12_ways 13 = .ok (.bipush 60, 2) := dq_of (by decide +kernel)
theorem dX12_ways_15 : decode cX12_ways 15 = .ok (.invokestatic 449, 3) := dq_of (by decide +kernel)
theorem dX12_ways_18 : decode cX12_ways 18 = .ok (.ifCond .ne 7, 3) := dq_of (by decide +kernel)
theorem dX12_ways_21 : decode cX12_ways 21 = .ok (.ldc2_w 517, 3) := dq_of (by decide +kernel)
theorem dX12_ways_24 : decode cX12_ways 24 = .ok (.lreturn, 1) := dq_of (by decide +kernel)
theorem dX12_ways_25 : decode cX12_ways 25 = .ok (.aload_n 0, 1) := dq_of (by decide +kernel)
theorem dX12_ways_26 : decode cX12_ways 26 = .ok (.iload_n 1, 1) := dq_of (by decide +kernel)
theorem dX12_ways_27 : decode cX12_ways 27 = .ok (.iload_n 2, 1) := dq_of (by decide +kernel)
theorem dX12_ways_28 : decode cX12_ways 28 = .ok (.iload_n 3, 1) := dq_of (by decide +kernel)
theorem dX12_ways_29 : decode cX12_ways 29 = .ok (.invokevirtual 493, 3) := dq_of (by decide +kernel)
theorem dX12_ways_32 : decode cX12_ways 32 = .ok (.iconst 0, 1) := dq_of (by decide +kernel)
theorem dX12_ways_33 : decode cX12_ways 33 = .ok (.istore 5, 2) := dq_of (by decide +kernel)
theorem dX12_ways_35 : decode cX12_ways 35 = .ok (.iload 5, 2) := dq_of (by decide +kernel)
theorem dX12_ways_37 : decode cX12_ways 37 = .ok (.sipush 1024, 3) := dq_of (by decide +kernel)
theorem dX12_ways_40 : decode cX12_ways 40 = .ok (.if_icmp .ge 61, 3) := dq_of (by decide +kernel)
theorem dX12_ways_43 : decode cX12_ways 43 = .ok (.aload_n 0, 1) := dq_of (by decide +kernel)
theorem dX12_ways_44 : decode cX12_ways 44 = .ok (.getfield 124, 3) := dq_of (by decide +kernel)
theorem dX12_ways_47 : decode cX12_ways 47 = .ok (.iload 5, 2) := dq_of (by decide +kernel)
theorem dX12_ways_49 : decode cX12_ways 49 = .ok (.iload 5, 2) := dq_of (by decide +kernel)
theorem dX12_ways_51 : decode cX12_ways 51 = .ok (.iconst 2, 1) := dq_of (by decide +kernel)
theorem dX12_ways_52 : decode cX12_ways 52 = .ok (.irem, 1) := dq_of (by decide +kernel)
theorem dX12_ways_53 : decode cX12_ways 53 = .ok (.ifCond .ne 40, 3) := dq_of (by decide +kernel)
theorem dX12_ways_56 : decode cX12_ways 56 = .ok (.iload 5, 2) := dq_of (by decide +kernel)
theorem dX12_ways_58 : decode cX12_ways 58 = .ok (.iconst 2, 1) := dq_of (by decide +kernel)
theorem dX12_ways_59 : decode cX12_ways 59 = .ok (.idiv, 1) := dq_of (by decide +kernel)
theorem dX12_ways_60 : decode cX12_ways 60 = .ok (.aload_n 0, 1) := dq_of (by decide +kernel)
theorem dX12_ways_61 : decode cX12_ways 61 = .ok (.getfield 478, 3) := dq_of (by decide +kernel)
theorem dX12_ways_64 : decode cX12_ways 64 = .ok (.if_icmp .ge 29, 3) := dq_of (by decide +kernel)
theorem dX12_ways_67 : decode cX12_ways 67 = .ok (.iload 5, 2) := dq_of (by decide +kernel)
theorem dX12_ways_69 : decode cX12_ways 69 = .ok (.iconst 2, 1) := dq_of (by decide +kernel)
theorem dX12_ways_70 : decode cX12_ways 70 = .ok (.idiv, 1) := dq_of (by decide +kernel)
theorem dX12_ways_71 : decode cX12_ways 71 = .ok (.sipush 400, 3) := dq_of (by decide +kernel)
theorem dX12_ways_74 : decode cX12_ways 74 = .ok (.if_icmp .ge 19, 3) := dq_of (by decide +kernel)
theorem dX12_ways_77 : decode cX12_ways 77 = .ok (.aload_n 0, 1) := dq_of (by decide +kernel)
theorem dX12_ways_78 : decode cX12_ways 78 = .ok (.getfield 115, 3) := dq_of (by decide +kernel)
theorem dX12_ways_81 : decode cX12_ways 81 = .ok (.iload 5, 2) := dq_of (by decide +kernel)
theorem dX12_ways_83 : decode cX12_ways 83 = .ok (.iconst 2, 1) := dq_of (by decide +kernel)
theorem dX12_ways_84 : decode cX12_ways 84 = .ok (.idiv, 1) := dq_of (by decide +kernel)
theorem dX12_ways_85 : decode cX12_ways 85 = .ok (.baload, 1) := dq_of (by decide +kernel)
theorem dX12_ways_86 : decode cX12_ways 86 = .ok (.ifCond .eq 7, 3) := dq_of (by decide +kernel)
theorem dX12_ways_89 : decode cX12_ways 89 = .ok (.lconst 1, 1) := dq_of (by decide +kernel)
theorem dX12_ways_90 : decode cX12_ways 90 = .ok (.goto 4, 3) := dq_of (by decide +kernel)
theorem dX12_ways_93 : decode cX12_ways 93 = .ok (.lconst 0, 1) := dq_of (by decide +kernel)
theorem dX12_ways_94 : decode cX12_ways 94 = .ok (.lastore, 1) := dq_of (by decide +kernel)
theorem dX12_ways_95 : decode cX12_ways 95 = .ok (.iinc 5 1, 3) := dq_of (by decide +kernel)
theorem dX12_ways_98 : decode cX12_ways 98 = .ok (.goto (-63), 3) := dq_of (by decide +kernel)
theorem dX12_ways_101 : decode cX12_ways 101 = .ok (.iconst 1, 1) := dq_of (by decide +kernel)
theorem dX12_ways_102 : decode cX12_ways 102 = .ok (.istore 5, 2) := dq_of (by decide +kernel)
theorem dX12_ways_104 : decode cX12_ways 104 = .ok (.iload 5, 2) := dq_of (by decide +kernel)
theorem dX12_ways_106 : decode cX12_ways 106 = .ok (.iload 4, 2) := dq_of (by decide +kernel)
theorem dX12_ways_108 : decode cX12_ways 108 = .ok (.if_icmp .ge 111, 3) := dq_of (by decide +kernel)
theorem dX12_ways_111 : decode cX12_ways 111 = .ok (.iconst 0, 1) := dq_of (by decide +kernel)
theorem dX12_ways_112 : decode cX12_ways 112 = .ok (.istore 6, 2) := dq_of (by decide +kernel)
theorem dX12_ways_114 : decode cX12_ways 114 = .ok (.iload 6, 2) := dq_of (by decide +kernel)
theorem dX12_ways_116 : decode cX12_ways 116 = .ok (.sipush 1024, 3) := dq_of (by decide +kernel)
theorem dX12_ways_119 : decode cX12_ways 119 = .ok (.if_icmp .ge 17, 3) := dq_of (by decide +kernel)
theorem dX12_ways_122 : decode cX12_ways 122 = .ok (.aload_n 0, 1) := dq_of (by decide +kernel)
theorem dX12_ways_123 : decode cX12_ways 123 = .ok (.getfield 127, 3) := dq_of (by decide +kernel)
theorem dX12_ways_126 : decode cX12_ways 126 = .ok (.iload 6, 2) := dq_of (by decide +kernel)
theorem dX12_ways_128 : decode cX12_ways 128 = .ok (.lconst 0, 1) := dq_of (by decide +kernel)
theorem dX12_ways_129 : decode cX12_ways 129 = .ok (.lastore, 1) := dq_of (by decide +kernel)
theorem dX12_ways_130 : decode cX12_ways 130 = .ok (.iinc 6 1, 3) := dq_of (by decide +kernel)
theorem dX12_ways_133 : decode cX12_ways 133 = .ok (.goto (-19), 3) := dq_of (by decide +kernel)
theorem dX12_ways_136 : decode cX12_ways 136 = .ok (.iconst 0, 1) := dq_of (by decide +kernel)
theorem dX12_ways_137 : decode cX12_ways 137 = .ok (.istore 6, 2) := dq_of (by decide +kernel)
theorem dX12_ways_139 : decode cX12_ways 139 = .ok (.iload 6, 2) := dq_of (by decide +kernel)
theorem dX12_ways_141 : decode cX12_ways 141 = .ok (.sipush 800, 3) := dq_of (by decide +kernel)
theorem dX12_ways_144 : decode cX12_ways 144 = .ok (.if_icmp .ge 38, 3) := dq_of (by decide +kernel)
theorem dX12_ways_147 : decode cX12_ways 147 = .ok (.aload_n 0, 1) := dq_of (by decide +kernel)
theorem dX12_ways_148 : decode cX12_ways 148 = .ok (.getfield 124, 3) := dq_of (by decide +kernel)
theorem dX12_ways_151 : decode cX12_ways 151 = .ok (.iload 6, 2) := dq_of (by decide +kernel)
theorem dX12_ways_153 : decode cX12_ways 153 = .ok (.laload, 1) := dq_of (by decide +kernel)
theorem dX12_ways_154 : decode cX12_ways 154 = .ok (.lconst 0, 1) := dq_of (by decide +kernel)
theorem dX12_ways_155 : decode cX12_ways 155 = .ok (.lcmp, 1) := dq_of (by decide +kernel)
theorem dX12_ways_156 : decode cX12_ways 156 = .ok (.ifCond .le 20, 3) := dq_of (by decide +kernel)
theorem dX12_ways_159 : decode cX12_ways 159 = .ok (.aload_n 0, 1) := dq_of (by decide +kernel)
theorem dX12_ways_160 : decode cX12_ways 160 = .ok (.iload 6, 2) := dq_of (by decide +kernel)
theorem dX12_ways_162 : decode cX12_ways 162 = .ok (.iconst 2, 1) := dq_of (by decide +kernel)
theorem dX12_ways_163 : decode cX12_ways 163 = .ok (.idiv, 1) := dq_of (by decide +kernel)
theorem dX12_ways_164 : decode cX12_ways 164 = .ok (.invokevirtual 499, 3) := dq_of (by decide +kernel)
theorem dX12_ways_167 : decode cX12_ways 167 = .ok (.ifCond .ne 9, 3) := dq_of (by decide +kernel)
theorem dX12_ways_170 : decode cX12_ways 170 = .ok (.aload_n 0, 1) := dq_of (by decide +kernel)
theorem dX12_ways_171 : decode cX12_ways 171 = .ok (.iload 6, 2) := dq_of (by decide +kernel)
theorem dX12_ways_173 : decode cX12_ways 173 = .ok (.invokevirtual 519, 3) := dq_of (by decide +kernel)
theorem dX12_ways_176 : decode cX12_ways 176 = .ok (.iinc 6 1, 3) := dq_of (by decide +kernel)
theorem dX12_ways_179 : decode cX12_ways 179 = .ok (.goto (-40), 3) := dq_of (by decide +kernel)
theorem dX12_ways_182 : decode cX12_ways 182 = .ok (.iconst 0, 1) := dq_of (by decide +kernel)
theorem dX12_ways_183 : decode cX12_ways 183 = .ok (.istore 6, 2) := dq_of (by decide +kernel)
theorem dX12_ways_185 : decode cX12_ways 185 = .ok (.iload 6, 2) := dq_of (by decide +kernel)
theorem dX12_ways_187 : decode cX12_ways 187 = .ok (.sipush 1024, 3) := dq_of (by decide +kernel)
theorem dX12_ways_190 : decode cX12_ways 190 = .ok (.if_icmp .ge 23, 3) := dq_of (by decide +kernel)
theorem dX12_ways_193 : decode cX12_ways 193 = .ok (.aload_n 0, 1) := dq_of (by decide +kernel)
theorem dX12_ways_194 : decode cX12_ways 194 = .ok (.getfield 124, 3) := dq_of (by decide +kernel)
theorem dX12_ways_197 : decode cX12_ways 197 = .ok (.iload 6, 2) := dq_of (by decide +kernel)
theorem dX12_ways_199 : decode cX12_ways 199 = .ok (.aload_n 0, 1) := dq_of (by decide +kernel)
theorem dX12_ways_200 : decode cX12_ways 200 = .ok (.getfield 127, 3) := dq_of (by decide +kernel)
theorem dX12_ways_203 : decode cX12_ways 203 = .ok (.iload 6, 2) := dq_of (by decide +kernel)
theorem dX12_ways_205 : decode cX12_ways 205 = .ok (.laload, 1) := dq_of (by decide +kernel)
theorem dX12_ways_206 : decode cX12_ways 206 = .ok (.lastore, 1) := dq_of (by decide +kernel)
theorem dX12_ways_207 : decode cX12_ways 207 = .ok (.iinc 6 1, 3) := dq_of (by decide +kernel)
theorem dX12_ways_210 : decode cX12_ways 210 = .ok (.goto (-25), 3) := dq_of (by decide +kernel)
theorem dX12_ways_213 : decode cX12_ways 213 = .ok (.iinc 5 1, 3) := dq_of (by decide +kernel)
theorem dX12_ways_216 : decode cX12_ways 216 = .ok (.goto (-112), 3) := dq_of (by decide +kernel)
theorem dX12_ways_219 : decode cX12_ways 219 = .ok (.lconst 0, 1) := dq_of (by decide +kernel)
theorem dX12_ways_220 : decode cX12_ways 220 = .ok (.lstore 5, 2) := dq_of (by decide +kernel)
theorem dX12_ways_222 : decode cX12_ways 222 = .ok (.iconst 0, 1) := dq_of (by decide +kernel)
theorem dX12_ways_223 : decode cX12_ways 223 = .ok (.istore 7, 2) := dq_of (by decide +kernel)
theorem dX12_ways_225 : decode cX12_ways 225 = .ok (.iload 7, 2) := dq_of (by decide +kernel)
theorem dX12_ways_227 : decode cX12_ways 227 = .ok (.sipush 800, 3) := dq_of (by decide +kernel)
theorem dX12_ways_230 : decode cX12_ways 230 = .ok (.if_icmp .ge 35, 3) := dq_of (by decide +kernel)
theorem dX12_ways_233 : decode cX12_ways 233 = .ok (.aload_n 0, 1) := dq_of (by decide +kernel)
theorem dX12_ways_234 : decode cX12_ways 234 = .ok (.iload 7, 2) := dq_of (by decide +kernel)
theorem dX12_ways_236 : decode cX12_ways 236 = .ok (.iconst 2, 1) := dq_of (by decide +kernel)
theorem dX12_ways_237 : decode cX12_ways 237 = .ok (.idiv, 1) := dq_of (by decide +kernel)
theorem dX12_ways_238 : decode cX12_ways 238 = .ok (.invokevirtual 499, 3) := dq_of (by decide +kernel)
theorem dX12_ways_241 : decode cX12_ways 241 = .ok (.ifCond .eq 18, 3) := dq_of (by decide +kernel)
theorem dX12_ways_244 : decode cX12_ways 244 = .ok (.lload 5, 2) := dq_of (by decide +kernel)
theorem dX12_ways_246 : decode cX12_ways 246 = .ok (.aload_n 0, 1) := dq_of (by decide +kernel)
theorem dX12_ways_247 : decode cX12_ways 247 = .ok (.getfield 124, 3) := dq_of (by decide +kernel)
theorem dX12_ways_250 : decode cX12_ways 250 = .ok (.iload 7, 2) := dq_of (by decide +kernel)
theorem dX12_ways_252 : decode cX12_ways 252 = .ok (.laload, 1) := dq_of (by decide +kernel)
theorem dX12_ways_253 : decode cX12_ways 253 = .ok (.ladd, 1) := dq_of (by decide +kernel)
theorem dX12_ways_254 : decode cX12_ways 254 = .ok (.invokestatic 522, 3) := dq_of (by decide +kernel)
theorem dX12_ways_257 : decode cX12_ways 257 = .ok (.lstore 5, 2) := dq_of (by decide +kernel)
theorem dX12_ways_259 : decode cX12_ways 259 = .ok (.iinc 7 1, 3) := dq_of (by decide +kernel)
theorem dX12_ways_262 : decode cX12_ways 262 = .ok (.goto (-37), 3) := dq_of (by decide +kernel)
theorem dX12_ways_265 : decode cX12_ways 265 = .ok (.lload 5, 2) := dq_of (by decide +kernel)
theorem dX12_ways_267 : decode cX12_ways 267 = .ok (.lreturn, 1) := dq_of (by decide +kernel)
set_option maxHeartbeats 4000000 in
set_option maxRecDepth 100000 in
theorem n_comesToEnd (l : Launch) (D : va_G) (k : KT) (A : Nat → Prop) (a : Nat → Nat) (z : SK) (G : GS) (p0 : Int32) (p1 : Int32) (ha_p0 : 0 ≤ p0.toInt ∧ p0.toInt ≤ 60) (ha_p1 : 1 ≤ p1.toInt ∧ p1.toInt ≤ 60) : Met l yX12_comesToEnd (WS yX12_comesToEnd cX12_comesToEnd 4 (some .boolean)) ({ frames := 2, cells := 0, slots := 0, locals := 42 }) (va_Pc [.ref (a 66), .int p0, .int p1] (cW D k A a z G)) (va_Qi (fun (r : Int32) (G1 : GS) => Q_comesToEnd p0 p1 G r G1) (fun (G1 : GS) t => Wd D k A a G1 t.heap) A) 0 0 A := by
  refine Met.ofW (cc := cX12_comesToEnd) (maxL := 4) (ret := (some .boolean)) (by decide) rfl ?_
  intro p e s m args below meth c s₁ B hml hv
  obtain ⟨rfl, hW, hB_G, hK, hZ⟩ := hv
  have hx := B.exec
  have hb := B.bytes
  have hr := B.returns
  have hts := atoms_spec (ws := WS yX12_comesToEnd cX12_comesToEnd 4 (some .boolean)) B.pre
  have hgd : ∀ w ∈ gd, w ∈ WS yX12_comesToEnd cX12_comesToEnd 4 (some .boolean) := fun w h => List.mem_cons_of_mem _ h
  have hg : ∀ w ∈ gd, w.before _ s = true := fun w h => hts w (hgd w h)
  have hown : s.vm.findClass RX12 = some m.cls := findClass_of_methodNamed B.named
  have hS : va_S A s.heap s.heap [] := va_S.rf
  have hF : Fr [] [] G G := Fr.rf
  have hl := lv_entry ([.ref (a 66), .int p0, .int p1]) (n := 4) (Nat.le_of_ble_eq_true rfl)
  rw [lg_entry_eq]
  generalize (lg_sl ([.ref (a 66), .int p0, .int p1]) ++ List.replicate (4 - (lg_sl ([.ref (a 66), .int p0, .int p1])).length) Slot.unset).toArray = ls at hl ⊢
  have hl : lv_has ls 4 [(0, .ref (a 66)), (1, .int p0), (2, .int p1)] := hl
  refine lv_iload_n hx hb dX12_comesToEnd_0 rfl (lv_at hl 1 rfl) ?_
  refine lv_istore_n (lv' := [(3, .int p0), (0, .ref (a 66)), (1, .int p0), (2, .int p1)]) hx hb dX12_comesToEnd_1 rfl hl (lt_b rfl) rfl (fun ls hl => ?_)
  refine loop_N (Inv := fun n H locs ls => ∃ (G_1 : GS) (x_5 : Int32), (n : Int) = 511 - x_5.toInt ∧ (0 ≤ x_5.toInt ∧ x_5.toInt ≤ 511) ∧ Rc (St_n_comesToEnd_1 p1) (p0, G) (x_5, G_1) ∧ Wd D k A a G_1 H ∧ Bd G_1 ∧ Fr [] [] G G_1 ∧ Fr [] [] G G_1 ∧ va_S A s.heap H locs ∧ lv_has ls 4 [(3, .int x_5), (0, .ref (a 66)), (2, .int p1)]) (fun n_4 H locs ls ih_3 hI => ?_) (511 - p0.toInt : Int).toNat ⟨G, p0, (Int.toNat_of_nonneg (by omega)), ⟨by omega, by omega⟩, Rc.rf, hW, hB_G, hF, Fr.rf, hS, lv_sub hl [0, 1, 3] rfl⟩
  obtain ⟨G_1, x_5, hn_8, f_7, hX_6, hW, hB_G_1, hF, hq_2, hS, hl⟩ := hI
  refine lv_aload_n hx hb dX12_comesToEnd_2 rfl (lv_at hl 1 rfl) ?_
  refine S_getR (n := 98) (C := RX12) (T := TX12) (N := 89) hx hb hg iX12 hown hK hW kd_66 rfl 58 (lt_b rfl) (hg (Cond.fieldLink RX12 115 "SlabWalkModel" "lawful" "[Z") m1372) (fun _ h9 => h9) rfl dX12_comesToEnd_3 ?_
  refine lv_iload_n hx hb dX12_comesToEnd_6 rfl (lv_at hl 0 rfl) ?_
  refine S_zald hx hb hK hW kd_98 (vin (by omega) (by omega)) dX12_comesToEnd_7 (fun y_9 ey_9 => ?_)
  have ty_9 := hB_G_1.law ey_9
  refine lv_if_eq (tgt := 26) hx hb dX12_comesToEnd_8 rfl (fun c_10 => ?_) (fun c_10 => ?_)
  · have c_10 : y_9.toInt = 0 := xI_eq rfl rfl c_10
    refine lv_aload_n hx hb dX12_comesToEnd_26 rfl (lv_at hl 1 rfl) ?_
    refine S_getR (n := 98) (C := RX12) (T := TX12) (N := 89) hx hb hg iX12 hown hK hW kd_66 rfl 58 (lt_b rfl) (hg (Cond.fieldLink RX12 115 "SlabWalkModel" "lawful" "[Z") m1372) (fun _ h9 => h9) rfl dX12_comesToEnd_27 ?_
    refine lv_iload_n hx hb dX12_comesToEnd_30 rfl (lv_at hl 0 rfl) ?_
    refine S_zald hx hb hK hW kd_98 (vin (by omega) (by omega)) dX12_comesToEnd_31 (fun y_11 ey_11 => ?_)
    have ty_11 := hB_G_1.law ey_11
    exact W.zret (v := y_11) hx hb hr (nar_z (by omega) (by omega)) (fun t ht _ => ⟨⟨y_11, G_1, rfl, (Q_comesToEnd_mk ⟨hB_G_1, hF, ⟨by omega, by omega⟩, ⟨x_5, G_1, hX_6, f_7, hB_G_1, hq_2, ⟨y_9, ey_9, (Or.inl ⟨c_10, ⟨y_11, ey_11, ⟨rfl, rfl⟩⟩⟩)⟩⟩⟩), wd_t ht hW⟩, hS.F ht⟩) hS.2.2 dX12_comesToEnd_32
  · have c_10 : y_9.toInt ≠ 0 := xI_ne rfl rfl c_10
    refine lv_aload_n hx hb dX12_comesToEnd_11 rfl (lv_at hl 1 rfl) ?_
    refine lv_iload_n hx hb dX12_comesToEnd_12 rfl (lv_at hl 0 rfl) ?_
    have b_12 : 0 ≤ (G.1 66 59).toInt ∧ (G.1 66 59).toInt ≤ 400 := bd_66_59 hB_G
    have g_13 : (G_1.1 66 59).toInt = (G.1 66 59).toInt := (congrArg Int32.toInt (show G_1.1 66 59 = (G.1 66 59) from (hq_2.i9 66 59 rfl rfl)))
    have b_14 : 0 ≤ (G.1 66 60).toInt ∧ (G.1 66 60).toInt ≤ 12 := bd_66_60 hB_G
    have g_15 : (G_1.1 66 60).toInt = (G.1 66 60).toInt := (congrArg Int32.toInt (show G_1.1 66 60 = (G.1 66 60) from (hq_2.i9 66 60 rfl rfl)))
    have b_16 : 0 ≤ (G.1 66 62).toInt ∧ (G.1 66 62).toInt ≤ 60 := bd_66_62 hB_G
    have g_17 : (G_1.1 66 62).toInt = (G.1 66 62).toInt := (congrArg Int32.toInt (show G_1.1 66 62 = (G.1 66 62) from (hq_2.i9 66 62 rfl rfl)))
    refine S_calli (va_runV (As := [.int x_5]) (rest := []) ⟨hx, hb, hml, hown, hts⟩ (n_isEnd l D k A a z G_1 x_5 ⟨by omega, by omega⟩) (cwV 1 hts (gd_V hgd m1854 m1856 m95 m131 m1857) rfl rfl rfl hd_X12_isEnd ⟨Nat.le_of_ble_eq_true rfl, Nat.le_of_ble_eq_true rfl⟩) (pre_V hW hB_G_1 hK hZ hS kd_66 rfl) rfl rfl hl.1 rfl (lv_room (Nat.le_of_ble_eq_true rfl)) dX12_comesToEnd_13 ⟨Nat.le_of_ble_eq_true rfl, Nat.le_of_ble_eq_true rfl⟩) hS (fun r_18 G_19 H locs hpo hW hS => ?_)
    have hX_22 : Q_isEnd x_5 G_1 r_18 G_19 := hpo
    obtain ⟨hB_G_19, hq_20, f_23, hp_21, -⟩ := hpo
    have hF := hF.call9 hq_20 rfl rfl
    refine lv_if_ne (tgt := 26) hx hb dX12_comesToEnd_16 rfl (fun c_24 => ?_) (fun c_24 => ?_)
    · have c_24 : r_18.toInt ≠ 0 := xI_ne rfl rfl c_24
      refine lv_aload_n hx hb dX12_comesToEnd_26 rfl (lv_at hl 1 rfl) ?_
      refine S_getR (n := 98) (C := RX12) (T := TX12) (N := 89) hx hb hg iX12 hown hK hW kd_66 rfl 58 (lt_b rfl) (hg (Cond.fieldLink RX12 115 "SlabWalkModel" "lawful" "[Z") m1372) (fun _ h9 => h9) rfl dX12_comesToEnd_27 ?_
      refine lv_iload_n hx hb dX12_comesToEnd_30 rfl (lv_at hl 0 rfl) ?_
      refine S_zald hx hb hK hW kd_98 (vin (by omega) (by omega)) dX12_comesToEnd_31 (fun y_25 ey_25 => ?_)
      have ty_25 := hB_G_19.law ey_25
      exact W.zret (v := y_25) hx hb hr (nar_z (by omega) (by omega)) (fun t ht _ => ⟨⟨y_25, G_19, rfl, (Q_comesToEnd_mk ⟨hB_G_19, hF, ⟨by omega, by omega⟩, ⟨x_5, G_1, hX_6, f_7, hB_G_1, hq_2, ⟨y_9, ey_9, (Or.inr ⟨c_10, ⟨r_18, G_19, hX_22, ⟨c_24, ⟨y_25, ey_25, ⟨rfl, rfl⟩⟩⟩⟩⟩)⟩⟩⟩), wd_t ht hW⟩, hS.F ht⟩) hS.2.2 dX12_comesToEnd_32
    · have c_24 : r_18.toInt = 0 := xI_eq rfl rfl c_24
      refine lv_iload_n hx hb dX12_comesToEnd_19 rfl (lv_at hl 0 rfl) ?_
      refine lv_iload_n hx hb dX12_comesToEnd_20 rfl (lv_at hl 2 rfl) ?_
      refine lv_iadd hx hb dX12_comesToEnd_21 ?_
      refine lv_topi (fun y_26 ey_26 => ?_)
      have ty_26 : y_26.toInt = x_5.toInt + p1.toInt := xI_add rfl rfl ey_26 (by omega) (by omega)
      refine lv_istore_n (lv' := [(3, .int y_26), (0, .ref (a 66)), (2, .int p1)]) hx hb dX12_comesToEnd_22 rfl hl (lt_b rfl) rfl (fun ls hl => ?_)
      refine lv_goto (tgt := 2) hx hb dX12_comesToEnd_23 rfl ?_
      exact ih_3 (511 - y_26.toInt : Int).toNat (by omega) _ _ _ ⟨G_19, y_26, (Int.toNat_of_nonneg (by omega)), ⟨by omega, by omega⟩, (hX_6.st (St_n_comesToEnd_1_mk ⟨x_5, G_1, y_26, G_19, rfl, rfl, f_7, hB_G_1, ⟨y_9, ey_9, ⟨c_10, ⟨r_18, G_19, hX_22, ⟨c_24, ⟨y_26, ty_26, ⟨rfl, rfl⟩⟩⟩⟩⟩⟩⟩)), hW, hB_G_19, hF, (Fr.call9 (rs := []) (fs := []) (Fr.call9 (rs := []) (fs := []) Fr.rf hq_2 rfl rfl) hq_20 rfl rfl), hS, lv_sub hl [0, 1, 2] rfl⟩

set_option maxHeartbeats 4000000 in
set_option maxRecDepth 100000 in
theorem n_even (l : Launch) (D : va_G) (k : KT) (A : Nat → Prop) (a : Nat → Nat) (z : SK) (G : GS) (p0 : Int32) (p1 : Int32) (p2 : Int32) (p3 : Int32) (p4 : Int32) (hP9 : gP G = 1) : Met l yX12_even (WS yX12_even cX12_even 8 (some .int)) ({ frames := 5, cells := 0, slots := 0, locals := 117 }) (va_Pc [.ref (a 66), .int p0, .int p1, .int p2, .int p3, .int p4] (cW D k A a z G)) (va_Qi (fun (r : Int32) (G1 : GS) => Q_even p0 p1 p2 p3 p4 G r G1) (fun (G1 : GS) t => Wd D k A a G1 t.heap) A) 0 0 A := by
  refine Met.ofW (cc := cX12_even) (maxL := 8) (ret := (some .int)) (by decide) rfl ?_
  intro p e s m args below meth c s₁ B hml hv
  obtain ⟨rfl, hW, hB_G, hK, hZ⟩ := hv
  have hx := B.exec
  have hb := B.bytes
  have hr := B.returns
  have hts := atoms_spec (ws := WS yX12_even cX12_even 8 (some .int)) B.pre
  have hgd : ∀ w ∈ gd, w ∈ WS yX12_even cX12_even 8 (some .int) := fun w h => List.mem_cons_of_mem _ h
  have hg : ∀ w ∈ gd, w.before _ s = true := fun w h => hts w (hgd w h)
  have hown : s.vm.findClass RX12 = some m.cls := findClass_of_methodNamed B.named
  have hS : va_S A s.heap s.heap [] := va_S.rf
  have hF : Fr [76, 97, 98] [(66, 59), (66, 60), (66, 61), (66, 62), (66, 63)] G G := Fr.rf
  have hl := lv_entry ([.ref (a 66), .int p0, .int p1, .int p2, .int p3, .int p4]) (n := 8) (Nat.le_of_ble_eq_true rfl)
  rw [lg_entry_eq]
  generalize (lg_sl ([.ref (a 66), .int p0, .int p1, .int p2, .int p3, .int p4]) ++ List.replicate (8 - (lg_sl ([.ref (a 66), .int p0, .int p1, .int p2, .int p3, .int p4])).length) Slot.unset).toArray = ls at hl ⊢
  have hl : lv_has ls 8 [(0, .ref (a 66)), (1, .int p0), (2, .int p1), (3, .int p2), (4, .int p3), (5, .int p4)] := hl
  refine lv_aload_n hx hb dX12_even_0 rfl (lv_at hl 0 rfl) ?_
  refine lv_iload_n hx hb dX12_even_1 rfl (lv_at hl 1 rfl) ?_
  refine lv_iload_n hx hb dX12_even_2 rfl (lv_at hl 2 rfl) ?_
  refine lv_iload_n hx hb dX12_even_3 rfl (lv_at hl 3 rfl) ?_
  refine S_calli (va_runV (As := [.int p0, .int p1, .int p2]) (rest := []) ⟨hx, hb, hml, hown, hts⟩ (n_isAsked l D k A a z G p0 p1 p2 ) (cwV 3 hts (gd_V hgd m1826 m1828 m89 m131 m1829) rfl rfl rfl hd_X12_isAsked ⟨Nat.le_of_ble_eq_true rfl, Nat.le_of_ble_eq_true rfl⟩) (pre_V hW hB_G hK hZ hS kd_66 rfl) rfl rfl hl.1 rfl (lv_room (Nat.le_of_ble_eq_true rfl)) dX12_even_4 ⟨Nat.le_of_ble_eq_true rfl, Nat.le_of_ble_eq_true rfl⟩) hS (fun r_1 G_2 H locs hpo hW hS => ?_)
  have hX_5 : Q_isAsked p0 p1 p2 G r_1 G_2 := hpo
  obtain ⟨hB_G_2, hq_3, f_6, hp_4, -⟩ := hpo
  have hF := hF.call9 hq_3 rfl rfl
  refine lv_if_eq (tgt := 31) hx hb dX12_even_7 rfl (fun c_7 => ?_) (fun c_7 => ?_)
  · have c_7 : r_1.toInt = 0 := xI_eq rfl rfl c_7
    refine ic_m1 hx hb dX12_even_31 ?_
    exact W.iret (v := (-1)) hx hb hr (fun t ht _ => ⟨⟨(-1), G_2, rfl, (Q_even_mk ⟨hB_G_2, hF, ⟨r_1, G_2, hX_5, (Or.inl ⟨c_7, ⟨rfl, rfl⟩⟩)⟩⟩), wd_t ht hW⟩, hS.F ht⟩) hS.2.2 dX12_even_32
  · have c_7 : r_1.toInt ≠ 0 := xI_ne rfl rfl c_7
    refine lv_aload_n hx hb dX12_even_10 rfl (lv_at hl 0 rfl) ?_
    refine lv_iload_n hx hb dX12_even_11 rfl (lv_at hl 2 rfl) ?_
    refine lv_iload hx hb dX12_even_12 (lv_at hl 4 rfl) ?_
    refine S_calli (va_runV (As := [.int p1, .int p3]) (rest := []) ⟨hx, hb, hml, hown, hts⟩ (n_isInch l D k A a z G_2 p1 p3 ⟨by omega, by omega⟩) (cwV 2 hts (gd_V hgd m1784 m1786 m84 m131 m1787) rfl rfl rfl hd_X12_isInch ⟨Nat.le_of_ble_eq_true rfl, Nat.le_of_ble_eq_true rfl⟩) (pre_V hW hB_G_2 hK hZ hS kd_66 rfl) rfl rfl hl.1 rfl (lv_room (Nat.le_of_ble_eq_true rfl)) dX12_even_14 ⟨Nat.le_of_ble_eq_true rfl, Nat.le_of_ble_eq_true rfl⟩) hS (fun r_8 G_9 H locs hpo hW hS => ?_)
    have hX_12 : Q_isInch p1 p3 G_2 r_8 G_9 := hpo
    obtain ⟨hB_G_9, hq_10, f_13, hp_11, -⟩ := hpo
    have hF := hF.call9 hq_10 rfl rfl
    refine lv_if_eq (tgt := 31) hx hb dX12_even_17 rfl (fun c_14 => ?_) (fun c_14 => ?_)
    · have c_14 : r_8.toInt = 0 := xI_eq rfl rfl c_14
      refine ic_m1 hx hb dX12_even_31 ?_
      exact W.iret (v := (-1)) hx hb hr (fun t ht _ => ⟨⟨(-1), G_9, rfl, (Q_even_mk ⟨hB_G_9, hF, ⟨r_1, G_2, hX_5, (Or.inr ⟨c_7, ⟨r_8, G_9, hX_12, (Or.inl ⟨c_14, ⟨rfl, rfl⟩⟩)⟩⟩)⟩⟩), wd_t ht hW⟩, hS.F ht⟩) hS.2.2 dX12_even_32
    · have c_14 : r_8.toInt ≠ 0 := xI_ne rfl rfl c_14
      refine lv_iload hx hb dX12_even_20 (lv_at hl 5 rfl) ?_
      refine ic_1 hx hb dX12_even_22 ?_
      refine lv_bipush (v := 99) hx hb dX12_even_23 (by decide) ?_
      have qc_15 : (1 : Int32).toInt = 1 := rfl
      have qc_16 : (99 : Int32).toInt = 99 := rfl
      refine S_calli (va_runS (As := [.int p4, .int 1, .int 99]) (rest := []) ⟨hx, hb, hml, hown, hts⟩ (n_isIn l D k A a z G_9 p4 1 99 ) (va_cwS 3 hts (gd_S hgd m1781 m1782 m131 m1783) rfl rfl rfl hd_X12_isIn.2 ⟨Nat.le_of_ble_eq_true rfl, Nat.le_of_ble_eq_true rfl⟩) (pre_S hW hB_G_9 hK hZ hS) rfl rfl hl.1 rfl (lv_room (Nat.le_of_ble_eq_true rfl)) dX12_even_25 ⟨Nat.le_of_ble_eq_true rfl, Nat.le_of_ble_eq_true rfl⟩) hS (fun r_17 G_18 H locs hpo hW hS => ?_)
      have hX_21 : Q_isIn p4 1 99 G_9 r_17 G_18 := hpo
      obtain ⟨hB_G_18, hq_19, f_22, hp_20, -⟩ := hpo
      have hF := hF.call9 hq_19 rfl rfl
      refine lv_if_ne (tgt := 33) hx hb dX12_even_28 rfl (fun c_23 => ?_) (fun c_23 => ?_)
      · have c_23 : r_17.toInt ≠ 0 := xI_ne rfl rfl c_23
        refine lv_aload_n hx hb dX12_even_33 rfl (lv_at hl 0 rfl) ?_
        refine lv_iload_n hx hb dX12_even_34 rfl (lv_at hl 1 rfl) ?_
        refine lv_iload_n hx hb dX12_even_35 rfl (lv_at hl 2 rfl) ?_
        refine lv_iload_n hx hb dX12_even_36 rfl (lv_at hl 3 rfl) ?_
        have fr_24 : Fr [] [] G G_18 := (Fr.call9 (rs := []) (fs := []) (Fr.call9 (rs := []) (fs := []) (Fr.call9 (rs := []) (fs := []) Fr.rf hq_3 rfl rfl) hq_10 rfl rfl) hq_19 rfl rfl)
        have g_25 : gP G_18 = gP G := gP_fr fr_24 (gr_q rfl) (gf_q rfl)
        refine S_callv (va_runV (As := [.int p0, .int p1, .int p2]) (rest := []) ⟨hx, hb, hml, hown, hts⟩ (n_layStreet l D k A a z G_18 p0 p1 p2 ⟨by omega, by omega⟩ ⟨by omega, by omega⟩ (by omega)) (cwV 3 hts (gd_V hgd m1834 m1836 m91 m131 m1837) rfl rfl rfl hd_X12_layStreet ⟨Nat.le_of_ble_eq_true rfl, Nat.le_of_ble_eq_true rfl⟩) (pre_V hW hB_G_18 hK hZ hS kd_66 rfl) rfl rfl hl.1 rfl (lv_room (Nat.le_of_ble_eq_true rfl)) dX12_even_37 ⟨Nat.le_of_ble_eq_true rfl, Nat.le_of_ble_eq_true rfl⟩) hS (fun G_27 H locs hpo hW hS => ?_)
        have hX_30 : Q_layStreet p0 p1 p2 G_18 G_27 := hpo
        obtain ⟨hB_G_27, hq_28, hp_29, -⟩ := hpo
        have hF := hF.call9 hq_28 rfl rfl
        refine ic_0 hx hb dX12_even_40 ?_
        refine lv_istore (lv' := [(6, .int 0), (0, .ref (a 66)), (1, .int p0), (2, .int p1), (3, .int p2), (4, .int p3), (5, .int p4)]) hx hb dX12_even_41 hl (lt_b rfl) rfl (fun ls hl => ?_)
        refine lv_iload hx hb dX12_even_43 (lv_at hl 5 rfl) ?_
        refine lv_istore (lv' := [(7, .int p3), (6, .int 0), (0, .ref (a 66)), (1, .int p0), (2, .int p1), (3, .int p2), (4, .int p3), (5, .int p4)]) hx hb dX12_even_45 hl (lt_b rfl) rfl (fun ls hl => ?_)
        have qc_38 : (0 : Int32).toInt = 0 := rfl
        refine loop_N (Inv := fun n H locs ls => ∃ (G_31 : GS) (x_35 : Int32) (x_36 : Int32), (n : Int) = 600 - x_35.toInt ∧ (0 ≤ x_35.toInt ∧ x_35.toInt ≤ 500) ∧ Rc (St_n_even_1 p4) (p3, 0, G_27) (x_35, x_36, G_31) ∧ Wd D k A a G_31 H ∧ Bd G_31 ∧ Fr [76, 97, 98] [(66, 59), (66, 60), (66, 61), (66, 62), (66, 63)] G G_31 ∧ Fr [] [] G_27 G_31 ∧ va_S A s.heap H locs ∧ lv_has ls 8 [(7, .int x_35), (6, .int x_36), (0, .ref (a 66)), (5, .int p4)]) (fun n_34 H locs ls ih_33 hI => ?_) (600 - p3.toInt : Int).toNat ⟨G_27, p3, 0, (Int.toNat_of_nonneg (by omega)), ⟨by omega, by omega⟩, Rc.rf, hW, hB_G_27, hF, Fr.rf, hS, lv_sub hl [0, 1, 2, 7] rfl⟩
        obtain ⟨G_31, x_35, x_36, hn_40, f_39, hX_37, hW, hB_G_31, hF, hq_32, hS, hl⟩ := hI
        refine lv_iload hx hb dX12_even_47 (lv_at hl 0 rfl) ?_
        refine lv_sipush (v := 400) hx hb dX12_even_49 (by decide) ?_
        refine lv_icmp_ge (tgt := 78) hx hb dX12_even_52 rfl (fun c_41 => ?_) (fun c_41 => ?_)
        · have c_41 : 400 ≤ x_35.toInt := xI_le rfl rfl c_41
          refine lv_iload hx hb dX12_even_78 (lv_at hl 1 rfl) ?_
          exact W.iret (v := x_36) hx hb hr (fun t ht _ => ⟨⟨x_36, G_31, rfl, (Q_even_mk ⟨hB_G_31, hF, ⟨r_1, G_2, hX_5, (Or.inr ⟨c_7, ⟨r_8, G_9, hX_12, (Or.inr ⟨c_14, ⟨r_17, G_18, hX_21, (Or.inr ⟨c_23, ⟨G_27, hX_30, ⟨x_35, x_36, G_31, hX_37, f_39, hB_G_31, hq_32, (Or.inl ⟨c_41, ⟨rfl, rfl⟩⟩)⟩⟩⟩)⟩⟩)⟩⟩)⟩⟩), wd_t ht hW⟩, hS.F ht⟩) hS.2.2 dX12_even_80
        · have c_41 : x_35.toInt < 400 := xI_nle rfl rfl c_41
          refine lv_aload_n hx hb dX12_even_55 rfl (lv_at hl 2 rfl) ?_
          refine S_getR (n := 98) (C := RX12) (T := TX12) (N := 89) hx hb hg iX12 hown hK hW kd_66 rfl 58 (lt_b rfl) (hg (Cond.fieldLink RX12 115 "SlabWalkModel" "lawful" "[Z") m1372) (fun _ h9 => h9) rfl dX12_even_56 ?_
          refine lv_iload hx hb dX12_even_59 (lv_at hl 0 rfl) ?_
          refine S_zald hx hb hK hW kd_98 (vin (by omega) (by omega)) dX12_even_61 (fun y_42 ey_42 => ?_)
          have ty_42 := hB_G_31.law ey_42
          refine lv_if_eq (tgt := 78) hx hb dX12_even_62 rfl (fun c_43 => ?_) (fun c_43 => ?_)
          · have c_43 : y_42.toInt = 0 := xI_eq rfl rfl c_43
            refine lv_iload hx hb dX12_even_78 (lv_at hl 1 rfl) ?_
            exact W.iret (v := x_36) hx hb hr (fun t ht _ => ⟨⟨x_36, G_31, rfl, (Q_even_mk ⟨hB_G_31, hF, ⟨r_1, G_2, hX_5, (Or.inr ⟨c_7, ⟨r_8, G_9, hX_12, (Or.inr ⟨c_14, ⟨r_17, G_18, hX_21, (Or.inr ⟨c_23, ⟨G_27, hX_30, ⟨x_35, x_36, G_31, hX_37, f_39, hB_G_31, hq_32, (Or.inr ⟨c_41, ⟨y_42, ey_42, ⟨c_43, ⟨rfl, rfl⟩⟩⟩⟩)⟩⟩⟩)⟩⟩)⟩⟩)⟩⟩), wd_t ht hW⟩, hS.F ht⟩) hS.2.2 dX12_even_80
          · have c_43 : y_42.toInt ≠ 0 := xI_ne rfl rfl c_43
            obtain ⟨y_44, ey_44⟩ : ∃ q, q = x_36 + 1 := ⟨_, rfl⟩
            refine lv_iinc (v := y_44) (lv' := [(6, .int y_44), (7, .int x_35), (0, .ref (a 66)), (5, .int p4)]) hx hb dX12_even_65 hl (k := 1) rfl (by rw [ey_44]; rfl) (lt_b rfl) rfl (fun ls hl => ?_)
            refine lv_iload hx hb dX12_even_68 (lv_at hl 1 rfl) ?_
            refine lv_iload hx hb dX12_even_70 (lv_at hl 3 rfl) ?_
            refine lv_iadd hx hb dX12_even_72 ?_
            refine lv_topi (fun y_45 ey_45 => ?_)
            have ty_45 : y_45.toInt = x_35.toInt + p4.toInt := xI_add rfl rfl ey_45 (by omega) (by omega)
            refine lv_istore (lv' := [(7, .int y_45), (6, .int y_44), (0, .ref (a 66)), (5, .int p4)]) hx hb dX12_even_73 hl (lt_b rfl) rfl (fun ls hl => ?_)
            refine lv_goto (tgt := 47) hx hb dX12_even_75 rfl ?_
            exact ih_33 (600 - y_45.toInt : Int).toNat (by omega) _ _ _ ⟨G_31, y_45, y_44, (Int.toNat_of_nonneg (by omega)), ⟨by omega, by omega⟩, (hX_37.st (St_n_even_1_mk ⟨x_35, x_36, G_31, y_45, y_44, G_31, rfl, rfl, f_39, hB_G_31, ⟨c_41, ⟨y_42, ey_42, ⟨c_43, ⟨y_44, ey_44, ⟨y_45, ty_45, ⟨rfl, rfl, rfl⟩⟩⟩⟩⟩⟩⟩)), hW, hB_G_31, hF, (Fr.call9 (rs := []) (fs := []) Fr.rf hq_32 rfl rfl), hS, lv_sub hl [0, 1, 2, 3] rfl⟩
      · have c_23 : r_17.toInt = 0 := xI_eq rfl rfl c_23
        refine ic_m1 hx hb dX12_even_31 ?_
        exact W.iret (v := (-1)) hx hb hr (fun t ht _ => ⟨⟨(-1), G_18, rfl, (Q_even_mk ⟨hB_G_18, hF, ⟨r_1, G_2, hX_5, (Or.inr ⟨c_7, ⟨r_8, G_9, hX_12, (Or.inr ⟨c_14, ⟨r_17, G_18, hX_21, (Or.inl ⟨c_23, ⟨rfl, rfl⟩⟩)⟩⟩)⟩⟩)⟩⟩), wd_t ht hW⟩, hS.F ht⟩) hS.2.2 dX12_even_32

set_option maxHeartbeats 4000000 in
set_option maxRecDepth 100000 in
theorem n_evens (l : Launch) (D : va_G) (k : KT) (A : Nat → Prop) (a : Nat → Nat) (z : SK) (G : GS) (p0 : Int32) (p1 : Int32) (p2 : Int32) (hP9 : gP G = 1) (hW9 : gW G = 1) : Met l yX12_evens (WS yX12_evens cX12_evens 7 (some .int)) ({ frames := 5, cells := 0, slots := 0, locals := 117 }) (va_Pc [.ref (a 66), .int p0, .int p1, .int p2] (cW D k A a z G)) (va_Qi (fun (r : Int32) (G1 : GS) => Q_evens p0 p1 p2 G r G1) (fun (G1 : GS) t => Wd D k A a G1 t.heap) A) 0 0 A := by
  refine Met.ofW (cc := cX12_evens) (maxL := 7) (ret := (some .int)) (by decide) rfl ?_
  intro p e s m args below meth c s₁ B hml hv
  obtain ⟨rfl, hW, hB_G, hK, hZ⟩ := hv
  have hx := B.exec
  have hb := B.bytes
  have hr := B.returns
  have hts := atoms_spec (ws := WS yX12_evens cX12_evens 7 (some .int)) B.pre
  have hgd : ∀ w ∈ gd, w ∈ WS yX12_evens cX12_evens 7 (some .int) := fun w h => List.mem_cons_of_mem _ h
  have hg : ∀ w ∈ gd, w.before _ s = true := fun w h => hts w (hgd w h)
  have hown : s.vm.findClass RX12 = some m.cls := findClass_of_methodNamed B.named
  have hS : va_S A s.heap s.heap [] := va_S.rf
  have hF : Fr [100, 76, 97, 98] [(66, 59), (66, 60), (66, 61), (66, 62), (66, 63), (66, 66)] G G := Fr.rf
  have hl := lv_entry ([.ref (a 66), .int p0, .int p1, .int p2]) (n := 7) (Nat.le_of_ble_eq_true rfl)
  rw [lg_entry_eq]
  generalize (lg_sl ([.ref (a 66), .int p0, .int p1, .int p2]) ++ List.replicate (7 - (lg_sl ([.ref (a 66), .int p0, .int p1, .int p2])).length) Slot.unset).toArray = ls at hl ⊢
  have hl : lv_has ls 7 [(0, .ref (a 66)), (1, .int p0), (2, .int p1), (3, .int p2)] := hl
  refine lv_aload_n hx hb dX12_evens_0 rfl (lv_at hl 0 rfl) ?_
  refine ic_0 hx hb dX12_evens_1 ?_
  refine S_putI (ty := .int) (C := RX12) (T := TX12) (N := 89) hx hb hg iX12 tyX12 tyX12_ok nmX12 hown hK hW hS kd_66 rfl 66 (lt_b rfl) (hg (Cond.fieldLink RX12 446 "SlabWalkModel" "lain" "I") m1380) (fun _ h9 => h9) rfl (by decide +kernel) rfl rfl rfl dX12_evens_2 (fun G_1 H locs eG_1 hW hS => ?_)
  have hB_G_1 : Bd G_1 := hB_G.put (V := 0) (lo := 0) (hi := 400) eG_1 rfl rfl rfl (by omega) (by omega) (hB_G.2.put eG_1 rfl)
  have hF := hF.put eG_1 (Or.inr (by decide))
  refine lv_aload_n hx hb dX12_evens_5 rfl (lv_at hl 0 rfl) ?_
  refine lv_iload_n hx hb dX12_evens_6 rfl (lv_at hl 1 rfl) ?_
  refine lv_iload_n hx hb dX12_evens_7 rfl (lv_at hl 2 rfl) ?_
  refine lv_iload_n hx hb dX12_evens_8 rfl (lv_at hl 3 rfl) ?_
  have b_2 : 0 ≤ (G.1 66 52).toInt ∧ (G.1 66 52).toInt ≤ 3 := bd_66_52 hB_G
  have g_3 : (G_1.1 66 52).toInt = (G.1 66 52).toInt := (congrArg Int32.toInt (show G_1.1 66 52 = (G.1 66 52) from (gp_ne eG_1 (by decide))))
  have b_4 : 0 ≤ (G.1 66 53).toInt ∧ (G.1 66 53).toInt ≤ 4 := bd_66_53 hB_G
  have g_5 : (G_1.1 66 53).toInt = (G.1 66 53).toInt := (congrArg Int32.toInt (show G_1.1 66 53 = (G.1 66 53) from (gp_ne eG_1 (by decide))))
  refine S_calli (va_runV (As := [.int p0, .int p1, .int p2]) (rest := []) ⟨hx, hb, hml, hown, hts⟩ (n_isAsked l D k A a z G_1 p0 p1 p2 ) (cwV 3 hts (gd_V hgd m1826 m1828 m89 m131 m1829) rfl rfl rfl hd_X12_isAsked ⟨Nat.le_of_ble_eq_true rfl, Nat.le_of_ble_eq_true rfl⟩) (pre_V hW hB_G_1 hK hZ hS kd_66 rfl) rfl rfl hl.1 rfl (lv_room (Nat.le_of_ble_eq_true rfl)) dX12_evens_9 ⟨Nat.le_of_ble_eq_true rfl, Nat.le_of_ble_eq_true rfl⟩) hS (fun r_6 G_7 H locs hpo hW hS => ?_)
  have hX_10 : Q_isAsked p0 p1 p2 G_1 r_6 G_7 := hpo
  obtain ⟨hB_G_7, hq_8, f_11, hp_9, -⟩ := hpo
  have hF := hF.call9 hq_8 rfl rfl
  refine lv_if_ne (tgt := 17) hx hb dX12_evens_12 rfl (fun c_12 => ?_) (fun c_12 => ?_)
  · have c_12 : r_6.toInt ≠ 0 := xI_ne rfl rfl c_12
    refine lv_aload_n hx hb dX12_evens_17 rfl (lv_at hl 0 rfl) ?_
    refine lv_iload_n hx hb dX12_evens_18 rfl (lv_at hl 1 rfl) ?_
    refine lv_iload_n hx hb dX12_evens_19 rfl (lv_at hl 2 rfl) ?_
    refine lv_iload_n hx hb dX12_evens_20 rfl (lv_at hl 3 rfl) ?_
    have fr_13 : Fr [] [(66, 66)] G G_7 := (Fr.call9 (rs := []) (fs := [(66, 66)]) (Fr.put (rs := []) (fs := [(66, 66)]) Fr.rf eG_1 (Or.inr (by decide))) hq_8 rfl rfl)
    have g_14 : gP G_7 = gP G := gP_fr fr_13 (gr_q rfl) (gf_q rfl)
    refine S_callv (va_runV (As := [.int p0, .int p1, .int p2]) (rest := []) ⟨hx, hb, hml, hown, hts⟩ (n_layStreet l D k A a z G_7 p0 p1 p2 ⟨by omega, by omega⟩ ⟨by omega, by omega⟩ (by omega)) (cwV 3 hts (gd_V hgd m1834 m1836 m91 m131 m1837) rfl rfl rfl hd_X12_layStreet ⟨Nat.le_of_ble_eq_true rfl, Nat.le_of_ble_eq_true rfl⟩) (pre_V hW hB_G_7 hK hZ hS kd_66 rfl) rfl rfl hl.1 rfl (lv_room (Nat.le_of_ble_eq_true rfl)) dX12_evens_21 ⟨Nat.le_of_ble_eq_true rfl, Nat.le_of_ble_eq_true rfl⟩) hS (fun G_16 H locs hpo hW hS => ?_)
    have hX_19 : Q_layStreet p0 p1 p2 G_7 G_16 := hpo
    obtain ⟨hB_G_16, hq_17, hp_18, -⟩ := hpo
    have hF := hF.call9 hq_17 rfl rfl
    have b_20 : 0 ≤ (G.1 66 53).toInt ∧ (G.1 66 53).toInt ≤ 4 := hB_G.i 66 53 rfl rfl
    have u_21 := gW_at hW9 p0 (by omega) (by omega)
    have u_22 : (G_7.1 92 p0.toNatClampNeg).toInt = (G.1 92 p0.toNatClampNeg).toInt := congrArg Int32.toInt (((hq_8.ri9 92 rfl p0.toNatClampNeg).trans (gp_ne eG_1 (fun q => absurd q.1 (Nat.ne_of_beq_eq_false rfl)))))
    have u_23 : (G_7.1 93 p0.toNatClampNeg).toInt = (G.1 93 p0.toNatClampNeg).toInt := congrArg Int32.toInt (((hq_8.ri9 93 rfl p0.toNatClampNeg).trans (gp_ne eG_1 (fun q => absurd q.1 (Nat.ne_of_beq_eq_false rfl)))))
    have u_24 : (G_7.1 94 p0.toNatClampNeg).toInt = (G.1 94 p0.toNatClampNeg).toInt := congrArg Int32.toInt (((hq_8.ri9 94 rfl p0.toNatClampNeg).trans (gp_ne eG_1 (fun q => absurd q.1 (Nat.ne_of_beq_eq_false rfl)))))
    have u_25 : (G_7.1 95 p0.toNatClampNeg).toInt = (G.1 95 p0.toNatClampNeg).toInt := congrArg Int32.toInt (((hq_8.ri9 95 rfl p0.toNatClampNeg).trans (gp_ne eG_1 (fun q => absurd q.1 (Nat.ne_of_beq_eq_false rfl)))))
    have b_26 : 0 ≤ (G_16.1 66 60).toInt ∧ (G_16.1 66 60).toInt ≤ 12 := bd_66_60 hB_G_16
    have b_27 : 0 ≤ (G_16.1 66 61).toInt ∧ (G_16.1 66 61).toInt ≤ 60 := bd_66_61 hB_G_16
    have b_28 : 0 ≤ (G_16.1 66 62).toInt ∧ (G_16.1 66 62).toInt ≤ 60 := bd_66_62 hB_G_16
    have b_29 : 0 ≤ (G_16.1 66 63).toInt ∧ (G_16.1 66 63).toInt ≤ 99 := bd_66_63 hB_G_16
    refine lv_aload_n hx hb dX12_evens_24 rfl (lv_at hl 0 rfl) ?_
    refine S_getI (v := (G_16.1 66 61)) (C := RX12) (T := TX12) (N := 89) hx hb hg iX12 hown hK hW kd_66 rfl 61 (lt_b rfl) (hg (Cond.fieldLink RX12 475 "SlabWalkModel" "least" "I") m1375) (fun _ h9 => h9) rfl rfl dX12_evens_25 ?_
    refine lv_istore (lv' := [(4, .int (G_16.1 66 61)), (0, .ref (a 66)), (1, .int p0), (2, .int p1), (3, .int p2)]) hx hb dX12_evens_28 hl (lt_b rfl) rfl (fun ls hl => ?_)
    have g_36 : (G_16.1 66 66).toInt = 0 := (congrArg Int32.toInt (show G_16.1 66 66 = 0 from ((hq_17.i9 66 66 rfl rfl).trans ((hq_8.i9 66 66 rfl rfl).trans (gp_eq eG_1))))).trans rfl
    refine loop_N (Inv := fun n H locs ls => ∃ (G_30 : GS) (x_34 : Int32), (n : Int) = 61 - x_34.toInt ∧ (1 ≤ x_34.toInt ∧ x_34.toInt ≤ 61) ∧ ((G_30.1 66 66).toInt ≤ x_34.toInt) ∧ Rc (St_n_evens_1 G_16) ((G_16.1 66 61), G_16) (x_34, G_30) ∧ Wd D k A a G_30 H ∧ Bd G_30 ∧ Fr [100, 76, 97, 98] [(66, 59), (66, 60), (66, 61), (66, 62), (66, 63), (66, 66)] G G_30 ∧ Fr [100] [(66, 66)] G_16 G_30 ∧ va_S A s.heap H locs ∧ lv_has ls 7 [(4, .int x_34), (0, .ref (a 66))]) (fun n_33 H locs ls ih_32 hI => ?_) (61 - (G_16.1 66 61).toInt : Int).toNat ⟨G_16, (G_16.1 66 61), (Int.toNat_of_nonneg (by omega)), ⟨by omega, by omega⟩, (by omega), Rc.rf, hW, hB_G_16, hF, Fr.rf, hS, lv_sub hl [0, 1] rfl⟩
    obtain ⟨G_30, x_34, hn_39, f_37, f_38, hX_35, hW, hB_G_30, hF, hq_31, hS, hl⟩ := hI
    have b_40 : 0 ≤ (G_30.1 66 66).toInt ∧ (G_30.1 66 66).toInt ≤ 400 := bd_66_66 hB_G_30
    refine lv_iload hx hb dX12_evens_30 (lv_at hl 0 rfl) ?_
    refine lv_aload_n hx hb dX12_evens_32 rfl (lv_at hl 1 rfl) ?_
    refine S_getI (v := (G_16.1 66 62)) (C := RX12) (T := TX12) (N := 89) hx hb hg iX12 hown hK hW kd_66 rfl 62 (lt_b rfl) (hg (Cond.fieldLink RX12 478 "SlabWalkModel" "most" "I") m1376) (fun _ h9 => h9) rfl ((hq_31.i9 66 62 rfl rfl).trans (rfl)) dX12_evens_33 ?_
    refine lv_icmp_gt (tgt := 92) hx hb dX12_evens_36 rfl (fun c_41 => ?_) (fun c_41 => ?_)
    · have c_41 : (G_16.1 66 62).toInt < x_34.toInt := xI_lt rfl rfl c_41
      refine lv_aload_n hx hb dX12_evens_92 rfl (lv_at hl 1 rfl) ?_
      refine S_getI (v := (G_30.1 66 66)) (C := RX12) (T := TX12) (N := 89) hx hb hg iX12 hown hK hW kd_66 rfl 66 (lt_b rfl) (hg (Cond.fieldLink RX12 446 "SlabWalkModel" "lain" "I") m1380) (fun _ h9 => h9) rfl rfl dX12_evens_93 ?_
      exact W.iret (v := (G_30.1 66 66)) hx hb hr (fun t ht _ => ⟨⟨(G_30.1 66 66), G_30, rfl, (Q_evens_mk ⟨hB_G_30, hF, ⟨G_1, hB_G_1, (Fr.put (rs := []) (fs := [(66, 66)]) Fr.rf eG_1 (Or.inr (by decide))), (gp_eq eG_1), ⟨r_6, G_7, hX_10, (Or.inr ⟨c_12, ⟨G_16, hX_19, ⟨x_34, G_30, hX_35, f_37, f_38, hB_G_30, hq_31, ⟨c_41, ⟨rfl, rfl⟩⟩⟩⟩⟩)⟩⟩⟩), wd_t ht hW⟩, hS.F ht⟩) hS.2.2 dX12_evens_96
    · have c_41 : x_34.toInt ≤ (G_16.1 66 62).toInt := xI_nlt rfl rfl c_41
      refine ic_0 hx hb dX12_evens_39 ?_
      refine lv_istore (lv' := [(5, .int 0), (4, .int x_34), (0, .ref (a 66))]) hx hb dX12_evens_40 hl (lt_b rfl) rfl (fun ls hl => ?_)
      refine ic_0 hx hb dX12_evens_42 ?_
      refine lv_istore (lv' := [(6, .int 0), (5, .int 0), (4, .int x_34), (0, .ref (a 66))]) hx hb dX12_evens_43 hl (lt_b rfl) rfl (fun ls hl => ?_)
      have qc_49 : (0 : Int32).toInt = 0 := rfl
      refine loop_N (Inv := fun n H locs ls => ∃ (G_42 : GS) (x_46 : Int32) (x_47 : Int32), (n : Int) = 60 - x_46.toInt ∧ (0 ≤ x_46.toInt ∧ x_46.toInt ≤ 60) ∧ (0 ≤ x_47.toInt ∧ x_47.toInt ≤ 1) ∧ Rc (St_n_evens_2 x_34 G_16) (0, 0, G_30) (x_46, x_47, G_42) ∧ Wd D k A a G_42 H ∧ Bd G_42 ∧ Fr [100, 76, 97, 98] [(66, 59), (66, 60), (66, 61), (66, 62), (66, 63), (66, 66)] G G_42 ∧ Fr [] [] G_30 G_42 ∧ va_S A s.heap H locs ∧ lv_has ls 7 [(6, .int x_46), (5, .int x_47), (4, .int x_34), (0, .ref (a 66))]) (fun n_45 H locs ls ih_44 hI => ?_) (60 - 0 : Int).toNat ⟨G_30, 0, 0, (Int.toNat_of_nonneg (by omega)), ⟨by omega, by omega⟩, ⟨by omega, by omega⟩, Rc.rf, hW, hB_G_30, hF, Fr.rf, hS, lv_sub hl [0, 1, 2, 3] rfl⟩
      obtain ⟨G_42, x_46, x_47, hn_52, f_50, f_51, hX_48, hW, hB_G_42, hF, hq_43, hS, hl⟩ := hI
      refine lv_iload hx hb dX12_evens_45 (lv_at hl 0 rfl) ?_
      refine lv_aload_n hx hb dX12_evens_47 rfl (lv_at hl 3 rfl) ?_
      refine S_getI (v := (G_16.1 66 62)) (C := RX12) (T := TX12) (N := 89) hx hb hg iX12 hown hK hW kd_66 rfl 62 (lt_b rfl) (hg (Cond.fieldLink RX12 478 "SlabWalkModel" "most" "I") m1376) (fun _ h9 => h9) rfl ((hq_43.i9 66 62 rfl rfl).trans ((hq_31.i9 66 62 rfl rfl).trans (rfl))) dX12_evens_48 ?_
      refine lv_icmp_ge (tgt := 75) hx hb dX12_evens_51 rfl (fun c_53 => ?_) (fun c_53 => ?_)
      · have c_53 : (G_16.1 66 62).toInt ≤ x_46.toInt := xI_le rfl rfl c_53
        refine lv_iload hx hb dX12_evens_75 (lv_at hl 1 rfl) ?_
        refine lv_if_eq (tgt := 86) hx hb dX12_evens_77 rfl (fun c_54 => ?_) (fun c_54 => ?_)
        · have c_54 : x_47.toInt = 0 := xI_eq rfl rfl c_54
          obtain ⟨y_55, ey_55⟩ : ∃ q, q = x_34 + 1 := ⟨_, rfl⟩
          have ty_55 : y_55.toInt = x_34.toInt + 1 := xI_add rfl rfl ey_55 (by omega) (by omega)
          refine lv_iinc (v := y_55) (lv' := [(4, .int y_55), (6, .int x_46), (5, .int x_47), (0, .ref (a 66))]) hx hb dX12_evens_86 hl (k := 2) rfl (by rw [ey_55]; rfl) (lt_b rfl) rfl (fun ls hl => ?_)
          refine lv_goto (tgt := 30) hx hb dX12_evens_89 rfl ?_
          have g_56 : (G_42.1 66 66).toInt = (G_30.1 66 66).toInt := (congrArg Int32.toInt (show G_42.1 66 66 = (G_30.1 66 66) from ((hq_43.i9 66 66 rfl rfl).trans (rfl))))
          exact ih_32 (61 - y_55.toInt : Int).toNat (by omega) _ _ _ ⟨G_42, y_55, (Int.toNat_of_nonneg (by omega)), ⟨by omega, by omega⟩, (by omega), (hX_35.st (St_n_evens_1_mk ⟨x_34, G_30, y_55, G_42, rfl, rfl, f_37, f_38, hB_G_30, ⟨c_41, ⟨x_46, x_47, G_42, hX_48, f_50, f_51, hB_G_42, hq_43, (Or.inl ⟨c_53, (Or.inl ⟨c_54, ⟨y_55, ty_55, ⟨rfl, rfl⟩⟩⟩)⟩)⟩⟩⟩)), hW, hB_G_42, hF, (Fr.call9 (rs := [100]) (fs := [(66, 66)]) (Fr.call9 (rs := [100]) (fs := [(66, 66)]) Fr.rf hq_31 rfl rfl) hq_43 rfl rfl), hS, lv_sub hl [0, 3] rfl⟩
        · have c_54 : x_47.toInt ≠ 0 := xI_ne rfl rfl c_54
          refine lv_aload_n hx hb dX12_evens_80 rfl (lv_at hl 3 rfl) ?_
          refine lv_iload hx hb dX12_evens_81 (lv_at hl 2 rfl) ?_
          have g_57 : (G_42.1 66 66).toInt = (G_30.1 66 66).toInt := (congrArg Int32.toInt (show G_42.1 66 66 = (G_30.1 66 66) from ((hq_43.i9 66 66 rfl rfl).trans (rfl))))
          have g_58 : (G_42.1 66 66).toInt = (G_30.1 66 66).toInt := (congrArg Int32.toInt (show G_42.1 66 66 = (G_30.1 66 66) from ((hq_43.i9 66 66 rfl rfl).trans (rfl))))
          refine S_callv (va_runV (As := [.int x_34]) (rest := []) ⟨hx, hb, hml, hown, hts⟩ (n_lay l D k A a z G_42 x_34 (by omega)) (cwV 1 hts (gd_V hgd m1866 m1868 m97 m131 m1869) rfl rfl rfl hd_X12_lay ⟨Nat.le_of_ble_eq_true rfl, Nat.le_of_ble_eq_true rfl⟩) (pre_V hW hB_G_42 hK hZ hS kd_66 rfl) rfl rfl hl.1 rfl (lv_room (Nat.le_of_ble_eq_true rfl)) dX12_evens_83 ⟨Nat.le_of_ble_eq_true rfl, Nat.le_of_ble_eq_true rfl⟩) hS (fun G_60 H locs hpo hW hS => ?_)
          have hX_63 : Q_lay x_34 G_42 G_60 := hpo
          obtain ⟨hB_G_60, hq_61, hp_62, -⟩ := hpo
          have hF := hF.call9 hq_61 rfl rfl
          obtain ⟨y_64, ey_64⟩ : ∃ q, q = x_34 + 1 := ⟨_, rfl⟩
          have ty_64 : y_64.toInt = x_34.toInt + 1 := xI_add rfl rfl ey_64 (by omega) (by omega)
          refine lv_iinc (v := y_64) (lv' := [(4, .int y_64), (6, .int x_46), (5, .int x_47), (0, .ref (a 66))]) hx hb dX12_evens_86 hl (k := 2) rfl (by rw [ey_64]; rfl) (lt_b rfl) rfl (fun ls hl => ?_)
          refine lv_goto (tgt := 30) hx hb dX12_evens_89 rfl ?_
          have b_65 : 0 ≤ (G_60.1 66 66).toInt ∧ (G_60.1 66 66).toInt ≤ 400 := bd_66_66 hB_G_60
          exact ih_32 (61 - y_64.toInt : Int).toNat (by omega) _ _ _ ⟨G_60, y_64, (Int.toNat_of_nonneg (by omega)), ⟨by omega, by omega⟩, (by omega), (hX_35.st (St_n_evens_1_mk ⟨x_34, G_30, y_64, G_60, rfl, rfl, f_37, f_38, hB_G_30, ⟨c_41, ⟨x_46, x_47, G_42, hX_48, f_50, f_51, hB_G_42, hq_43, (Or.inl ⟨c_53, (Or.inr ⟨c_54, ⟨G_60, hX_63, ⟨y_64, ty_64, ⟨rfl, rfl⟩⟩⟩⟩)⟩)⟩⟩⟩)), hW, hB_G_60, hF, (Fr.call9 (rs := [100]) (fs := [(66, 66)]) (Fr.call9 (rs := [100]) (fs := [(66, 66)]) (Fr.call9 (rs := [100]) (fs := [(66, 66)]) Fr.rf hq_31 rfl rfl) hq_43 rfl rfl) hq_61 rfl rfl), hS, lv_sub hl [0, 3] rfl⟩
      · have c_53 : x_46.toInt < (G_16.1 66 62).toInt := xI_nle rfl rfl c_53
        refine lv_iload hx hb dX12_evens_54 (lv_at hl 1 rfl) ?_
        refine lv_if_ne (tgt := 75) hx hb dX12_evens_56 rfl (fun c_66 => ?_) (fun c_66 => ?_)
        · have c_66 : x_47.toInt ≠ 0 := xI_ne rfl rfl c_66
          refine lv_iload hx hb dX12_evens_75 (lv_at hl 1 rfl) ?_
          refine lv_if_eq (tgt := 86) hx hb dX12_evens_77 rfl (fun c_67 => ?_) (fun c_67 => ?_)
          · have c_67 : x_47.toInt = 0 := xI_eq rfl rfl c_67
            exfalso; omega
          · have c_67 : x_47.toInt ≠ 0 := xI_ne rfl rfl c_67
            refine lv_aload_n hx hb dX12_evens_80 rfl (lv_at hl 3 rfl) ?_
            refine lv_iload hx hb dX12_evens_81 (lv_at hl 2 rfl) ?_
            have g_68 : (G_42.1 66 66).toInt = (G_30.1 66 66).toInt := (congrArg Int32.toInt (show G_42.1 66 66 = (G_30.1 66 66) from ((hq_43.i9 66 66 rfl rfl).trans (rfl))))
            have g_69 : (G_42.1 66 66).toInt = (G_30.1 66 66).toInt := (congrArg Int32.toInt (show G_42.1 66 66 = (G_30.1 66 66) from ((hq_43.i9 66 66 rfl rfl).trans (rfl))))
            refine S_callv (va_runV (As := [.int x_34]) (rest := []) ⟨hx, hb, hml, hown, hts⟩ (n_lay l D k A a z G_42 x_34 (by omega)) (cwV 1 hts (gd_V hgd m1866 m1868 m97 m131 m1869) rfl rfl rfl hd_X12_lay ⟨Nat.le_of_ble_eq_true rfl, Nat.le_of_ble_eq_true rfl⟩) (pre_V hW hB_G_42 hK hZ hS kd_66 rfl) rfl rfl hl.1 rfl (lv_room (Nat.le_of_ble_eq_true rfl)) dX12_evens_83 ⟨Nat.le_of_ble_eq_true rfl, Nat.le_of_ble_eq_true rfl⟩) hS (fun G_71 H locs hpo hW hS => ?_)
            have hX_74 : Q_lay x_34 G_42 G_71 := hpo
            obtain ⟨hB_G_71, hq_72, hp_73, -⟩ := hpo
            have hF := hF.call9 hq_72 rfl rfl
            obtain ⟨y_75, ey_75⟩ : ∃ q, q = x_34 + 1 := ⟨_, rfl⟩
            have ty_75 : y_75.toInt = x_34.toInt + 1 := xI_add rfl rfl ey_75 (by omega) (by omega)
            refine lv_iinc (v := y_75) (lv' := [(4, .int y_75), (6, .int x_46), (5, .int x_47), (0, .ref (a 66))]) hx hb dX12_evens_86 hl (k := 2) rfl (by rw [ey_75]; rfl) (lt_b rfl) rfl (fun ls hl => ?_)
            refine lv_goto (tgt := 30) hx hb dX12_evens_89 rfl ?_
            have b_76 : 0 ≤ (G_71.1 66 66).toInt ∧ (G_71.1 66 66).toInt ≤ 400 := bd_66_66 hB_G_71
            exact ih_32 (61 - y_75.toInt : Int).toNat (by omega) _ _ _ ⟨G_71, y_75, (Int.toNat_of_nonneg (by omega)), ⟨by omega, by omega⟩, (by omega), (hX_35.st (St_n_evens_1_mk ⟨x_34, G_30, y_75, G_71, rfl, rfl, f_37, f_38, hB_G_30, ⟨c_41, ⟨x_46, x_47, G_42, hX_48, f_50, f_51, hB_G_42, hq_43, (Or.inr ⟨c_53, ⟨c_66, ⟨G_71, hX_74, ⟨y_75, ty_75, ⟨rfl, rfl⟩⟩⟩⟩⟩)⟩⟩⟩)), hW, hB_G_71, hF, (Fr.call9 (rs := [100]) (fs := [(66, 66)]) (Fr.call9 (rs := [100]) (fs := [(66, 66)]) (Fr.call9 (rs := [100]) (fs := [(66, 66)]) Fr.rf hq_31 rfl rfl) hq_43 rfl rfl) hq_72 rfl rfl), hS, lv_sub hl [0, 3] rfl⟩
        · have c_66 : x_47.toInt = 0 := xI_eq rfl rfl c_66
          refine lv_aload_n hx hb dX12_evens_59 rfl (lv_at hl 3 rfl) ?_
          refine lv_iload hx hb dX12_evens_60 (lv_at hl 0 rfl) ?_
          refine lv_iload hx hb dX12_evens_62 (lv_at hl 2 rfl) ?_
          refine S_calli (va_runV (As := [.int x_46, .int x_34]) (rest := []) ⟨hx, hb, hml, hown, hts⟩ (n_comesToEnd l D k A a z G_42 x_46 x_34 ⟨by omega, by omega⟩ ⟨by omega, by omega⟩) (cwV 2 hts (gd_V hgd m1899 m1901 m100 m131 m1902) rfl rfl rfl hd_X12_comesToEnd ⟨Nat.le_of_ble_eq_true rfl, Nat.le_of_ble_eq_true rfl⟩) (pre_V hW hB_G_42 hK hZ hS kd_66 rfl) rfl rfl hl.1 rfl (lv_room (Nat.le_of_ble_eq_true rfl)) dX12_evens_64 ⟨Nat.le_of_ble_eq_true rfl, Nat.le_of_ble_eq_true rfl⟩) hS (fun r_77 G_78 H locs hpo hW hS => ?_)
          have hX_81 : Q_comesToEnd x_46 x_34 G_42 r_77 G_78 := hpo
          obtain ⟨hB_G_78, hq_79, f_82, -⟩ := hpo
          have hF := hF.call9 hq_79 rfl rfl
          refine lv_istore (lv' := [(5, .int r_77), (6, .int x_46), (4, .int x_34), (0, .ref (a 66))]) hx hb dX12_evens_67 hl (lt_b rfl) rfl (fun ls hl => ?_)
          obtain ⟨y_83, ey_83⟩ : ∃ q, q = x_46 + 1 := ⟨_, rfl⟩
          have ty_83 : y_83.toInt = x_46.toInt + 1 := xI_add rfl rfl ey_83 (by omega) (by omega)
          refine lv_iinc (v := y_83) (lv' := [(6, .int y_83), (5, .int r_77), (4, .int x_34), (0, .ref (a 66))]) hx hb dX12_evens_69 hl (k := 1) rfl (by rw [ey_83]; rfl) (lt_b rfl) rfl (fun ls hl => ?_)
          refine lv_goto (tgt := 45) hx hb dX12_evens_72 rfl ?_
          exact ih_44 (60 - y_83.toInt : Int).toNat (by omega) _ _ _ ⟨G_78, y_83, r_77, (Int.toNat_of_nonneg (by omega)), ⟨by omega, by omega⟩, ⟨by omega, by omega⟩, (hX_48.st (St_n_evens_2_mk ⟨x_46, x_47, G_42, y_83, r_77, G_78, rfl, rfl, f_50, f_51, hB_G_42, ⟨c_53, ⟨c_66, ⟨r_77, G_78, hX_81, ⟨y_83, ty_83, ⟨rfl, rfl, rfl⟩⟩⟩⟩⟩⟩)), hW, hB_G_78, hF, (Fr.call9 (rs := []) (fs := []) (Fr.call9 (rs := []) (fs := []) Fr.rf hq_43 rfl rfl) hq_79 rfl rfl), hS, lv_sub hl [0, 1, 2, 3] rfl⟩
  · have c_12 : r_6.toInt = 0 := xI_eq rfl rfl c_12
    refine ic_m1 hx hb dX12_evens_15 ?_
    exact W.iret (v := (-1)) hx hb hr (fun t ht _ => ⟨⟨(-1), G_7, rfl, (Q_evens_mk ⟨hB_G_7, hF, ⟨G_1, hB_G_1, (Fr.put (rs := []) (fs := [(66, 66)]) Fr.rf eG_1 (Or.inr (by decide))), (gp_eq eG_1), ⟨r_6, G_7, hX_10, (Or.inl ⟨c_12, ⟨rfl, rfl⟩⟩)⟩⟩⟩), wd_t ht hW⟩, hS.F ht⟩) hS.2.2 dX12_evens_16

set_option maxHeartbeats 4000000 in
set_option maxRecDepth 100000 in
theorem n_evenest (l : Launch) (D : va_G) (k : KT) (A : Nat → Prop) (a : Nat → Nat) (z : SK) (G : GS) (p0 : Int32) (p1 : Int32) (p2 : Int32) (p3 : Int32) (hP9 : gP G = 1) (hW9 : gW G = 1) : Met l yX12_evenest (WS yX12_evenest cX12_evenest 7 (some .int)) ({ frames := 5, cells := 0, slots := 0, locals := 117 }) (va_Pc [.ref (a 66), .int p0, .int p1, .int p2, .int p3] (cW D k A a z G)) (va_Qi (fun (r : Int32) (G1 : GS) => Q_evenest p0 p1 p2 p3 G r G1) (fun (G1 : GS) t => Wd D k A a G1 t.heap) A) 0 0 A := by
  refine Met.ofW (cc := cX12_evenest) (maxL := 7) (ret := (some .int)) (by decide) rfl ?_
  intro p e s m args below meth c s₁ B hml hv
  obtain ⟨rfl, hW, hB_G, hK, hZ⟩ := hv
  have hx := B.exec
  have hb := B.bytes
  have hr := B.returns
  have hts := atoms_spec (ws := WS yX12_evenest cX12_evenest 7 (some .int)) B.pre
  have hgd : ∀ w ∈ gd, w ∈ WS yX12_evenest cX12_evenest 7 (some .int) := fun w h => List.mem_cons_of_mem _ h
  have hg : ∀ w ∈ gd, w.before _ s = true := fun w h => hts w (hgd w h)
  have hown : s.vm.findClass RX12 = some m.cls := findClass_of_methodNamed B.named
  have hS : va_S A s.heap s.heap [] := va_S.rf
  have hF : Fr [103, 76, 97, 98] [(66, 59), (66, 60), (66, 61), (66, 62), (66, 63)] G G := Fr.rf
  have hl := lv_entry ([.ref (a 66), .int p0, .int p1, .int p2, .int p3]) (n := 7) (Nat.le_of_ble_eq_true rfl)
  rw [lg_entry_eq]
  generalize (lg_sl ([.ref (a 66), .int p0, .int p1, .int p2, .int p3]) ++ List.replicate (7 - (lg_sl ([.ref (a 66), .int p0, .int p1, .int p2, .int p3])).length) Slot.unset).toArray = ls at hl ⊢
  have hl : lv_has ls 7 [(0, .ref (a 66)), (1, .int p0), (2, .int p1), (3, .int p2), (4, .int p3)] := hl
  refine lv_aload_n hx hb dX12_evenest_0 rfl (lv_at hl 0 rfl) ?_
  refine lv_iload_n hx hb dX12_evenest_1 rfl (lv_at hl 1 rfl) ?_
  refine lv_iload_n hx hb dX12_evenest_2 rfl (lv_at hl 2 rfl) ?_
  refine lv_iload_n hx hb dX12_evenest_3 rfl (lv_at hl 3 rfl) ?_
  refine S_calli (va_runV (As := [.int p0, .int p1, .int p2]) (rest := []) ⟨hx, hb, hml, hown, hts⟩ (n_isAsked l D k A a z G p0 p1 p2 ) (cwV 3 hts (gd_V hgd m1826 m1828 m89 m131 m1829) rfl rfl rfl hd_X12_isAsked ⟨Nat.le_of_ble_eq_true rfl, Nat.le_of_ble_eq_true rfl⟩) (pre_V hW hB_G hK hZ hS kd_66 rfl) rfl rfl hl.1 rfl (lv_room (Nat.le_of_ble_eq_true rfl)) dX12_evenest_4 ⟨Nat.le_of_ble_eq_true rfl, Nat.le_of_ble_eq_true rfl⟩) hS (fun r_1 G_2 H locs hpo hW hS => ?_)
  have hX_5 : Q_isAsked p0 p1 p2 G r_1 G_2 := hpo
  obtain ⟨hB_G_2, hq_3, f_6, hp_4, -⟩ := hpo
  have hF := hF.call9 hq_3 rfl rfl
  refine lv_if_eq (tgt := 20) hx hb dX12_evenest_7 rfl (fun c_7 => ?_) (fun c_7 => ?_)
  · have c_7 : r_1.toInt = 0 := xI_eq rfl rfl c_7
    refine ic_m1 hx hb dX12_evenest_20 ?_
    exact W.iret (v := (-1)) hx hb hr (fun t ht _ => ⟨⟨(-1), G_2, rfl, (Q_evenest_mk ⟨hB_G_2, hF, ⟨r_1, G_2, hX_5, (Or.inl ⟨c_7, ⟨rfl, rfl⟩⟩)⟩⟩), wd_t ht hW⟩, hS.F ht⟩) hS.2.2 dX12_evenest_21
  · have c_7 : r_1.toInt ≠ 0 := xI_ne rfl rfl c_7
    refine lv_iload hx hb dX12_evenest_10 (lv_at hl 4 rfl) ?_
    refine ic_0 hx hb dX12_evenest_12 ?_
    refine ic_1 hx hb dX12_evenest_13 ?_
    have qc_8 : (0 : Int32).toInt = 0 := rfl
    have qc_9 : (1 : Int32).toInt = 1 := rfl
    refine S_calli (va_runS (As := [.int p3, .int 0, .int 1]) (rest := []) ⟨hx, hb, hml, hown, hts⟩ (n_isIn l D k A a z G_2 p3 0 1 ) (va_cwS 3 hts (gd_S hgd m1781 m1782 m131 m1783) rfl rfl rfl hd_X12_isIn.2 ⟨Nat.le_of_ble_eq_true rfl, Nat.le_of_ble_eq_true rfl⟩) (pre_S hW hB_G_2 hK hZ hS) rfl rfl hl.1 rfl (lv_room (Nat.le_of_ble_eq_true rfl)) dX12_evenest_14 ⟨Nat.le_of_ble_eq_true rfl, Nat.le_of_ble_eq_true rfl⟩) hS (fun r_10 G_11 H locs hpo hW hS => ?_)
    have hX_14 : Q_isIn p3 0 1 G_2 r_10 G_11 := hpo
    obtain ⟨hB_G_11, hq_12, f_15, hp_13, -⟩ := hpo
    have hF := hF.call9 hq_12 rfl rfl
    refine lv_if_ne (tgt := 22) hx hb dX12_evenest_17 rfl (fun c_16 => ?_) (fun c_16 => ?_)
    · have c_16 : r_10.toInt ≠ 0 := xI_ne rfl rfl c_16
      refine lv_aload_n hx hb dX12_evenest_22 rfl (lv_at hl 0 rfl) ?_
      refine lv_iload_n hx hb dX12_evenest_23 rfl (lv_at hl 1 rfl) ?_
      refine lv_iload_n hx hb dX12_evenest_24 rfl (lv_at hl 2 rfl) ?_
      refine lv_iload_n hx hb dX12_evenest_25 rfl (lv_at hl 3 rfl) ?_
      have fr_17 : Fr [] [] G G_11 := (Fr.call9 (rs := []) (fs := []) (Fr.call9 (rs := []) (fs := []) Fr.rf hq_3 rfl rfl) hq_12 rfl rfl)
      have g_18 : gP G_11 = gP G := gP_fr fr_17 (gr_q rfl) (gf_q rfl)
      refine S_callv (va_runV (As := [.int p0, .int p1, .int p2]) (rest := []) ⟨hx, hb, hml, hown, hts⟩ (n_layStreet l D k A a z G_11 p0 p1 p2 ⟨by omega, by omega⟩ ⟨by omega, by omega⟩ (by omega)) (cwV 3 hts (gd_V hgd m1834 m1836 m91 m131 m1837) rfl rfl rfl hd_X12_layStreet ⟨Nat.le_of_ble_eq_true rfl, Nat.le_of_ble_eq_true rfl⟩) (pre_V hW hB_G_11 hK hZ hS kd_66 rfl) rfl rfl hl.1 rfl (lv_room (Nat.le_of_ble_eq_true rfl)) dX12_evenest_26 ⟨Nat.le_of_ble_eq_true rfl, Nat.le_of_ble_eq_true rfl⟩) hS (fun G_20 H locs hpo hW hS => ?_)
      have hX_23 : Q_layStreet p0 p1 p2 G_11 G_20 := hpo
      obtain ⟨hB_G_20, hq_21, hp_22, -⟩ := hpo
      have hF := hF.call9 hq_21 rfl rfl
      have b_24 : 0 ≤ (G.1 66 53).toInt ∧ (G.1 66 53).toInt ≤ 4 := hB_G.i 66 53 rfl rfl
      have u_25 := gW_at hW9 p0 (by omega) (by omega)
      have u_26 : (G_11.1 92 p0.toNatClampNeg).toInt = (G.1 92 p0.toNatClampNeg).toInt := congrArg Int32.toInt (((hq_12.ri9 92 rfl p0.toNatClampNeg).trans (hq_3.ri9 92 rfl p0.toNatClampNeg)))
      have u_27 : (G_11.1 93 p0.toNatClampNeg).toInt = (G.1 93 p0.toNatClampNeg).toInt := congrArg Int32.toInt (((hq_12.ri9 93 rfl p0.toNatClampNeg).trans (hq_3.ri9 93 rfl p0.toNatClampNeg)))
      have u_28 : (G_11.1 94 p0.toNatClampNeg).toInt = (G.1 94 p0.toNatClampNeg).toInt := congrArg Int32.toInt (((hq_12.ri9 94 rfl p0.toNatClampNeg).trans (hq_3.ri9 94 rfl p0.toNatClampNeg)))
      have u_29 : (G_11.1 95 p0.toNatClampNeg).toInt = (G.1 95 p0.toNatClampNeg).toInt := congrArg Int32.toInt (((hq_12.ri9 95 rfl p0.toNatClampNeg).trans (hq_3.ri9 95 rfl p0.toNatClampNeg)))
      have b_30 : 0 ≤ (G_20.1 66 60).toInt ∧ (G_20.1 66 60).toInt ≤ 12 := bd_66_60 hB_G_20
      have b_31 : 0 ≤ (G_20.1 66 61).toInt ∧ (G_20.1 66 61).toInt ≤ 60 := bd_66_61 hB_G_20
      have b_32 : 0 ≤ (G_20.1 66 62).toInt ∧ (G_20.1 66 62).toInt ≤ 60 := bd_66_62 hB_G_20
      have b_33 : 0 ≤ (G_20.1 66 63).toInt ∧ (G_20.1 66 63).toInt ≤ 99 := bd_66_63 hB_G_20
      refine ic_0 hx hb dX12_evenest_29 ?_
      refine lv_istore (lv' := [(5, .int 0), (0, .ref (a 66)), (1, .int p0), (2, .int p1), (3, .int p2), (4, .int p3)]) hx hb dX12_evenest_30 hl (lt_b rfl) rfl (fun ls hl => ?_)
      have qc_40 : (0 : Int32).toInt = 0 := rfl
      refine loop_N (Inv := fun n H locs ls => ∃ (G_34 : GS) (x_38 : Int32), (n : Int) = 60 - x_38.toInt ∧ (0 ≤ x_38.toInt ∧ x_38.toInt ≤ 60) ∧ Rc (St_n_evenest_1 G_20) (0, G_20) (x_38, G_34) ∧ Wd D k A a G_34 H ∧ Bd G_34 ∧ Fr [103, 76, 97, 98] [(66, 59), (66, 60), (66, 61), (66, 62), (66, 63)] G G_34 ∧ Fr [103] [] G_20 G_34 ∧ va_S A s.heap H locs ∧ lv_has ls 7 [(5, .int x_38), (0, .ref (a 66)), (4, .int p3)]) (fun n_37 H locs ls ih_36 hI => ?_) (60 - 0 : Int).toNat ⟨G_20, 0, (Int.toNat_of_nonneg (by omega)), ⟨by omega, by omega⟩, Rc.rf, hW, hB_G_20, hF, Fr.rf, hS, lv_sub hl [0, 1, 5] rfl⟩
      obtain ⟨G_34, x_38, hn_42, f_41, hX_39, hW, hB_G_34, hF, hq_35, hS, hl⟩ := hI
      refine lv_iload hx hb dX12_evenest_32 (lv_at hl 0 rfl) ?_
      refine lv_aload_n hx hb dX12_evenest_34 rfl (lv_at hl 1 rfl) ?_
      refine S_getI (v := (G_20.1 66 62)) (C := RX12) (T := TX12) (N := 89) hx hb hg iX12 hown hK hW kd_66 rfl 62 (lt_b rfl) (hg (Cond.fieldLink RX12 478 "SlabWalkModel" "most" "I") m1376) (fun _ h9 => h9) rfl ((hq_35.i9 66 62 rfl rfl).trans (rfl)) dX12_evenest_35 ?_
      refine lv_aload_n hx hb dX12_evenest_38 rfl (lv_at hl 1 rfl) ?_
      refine S_getI (v := (G_20.1 66 61)) (C := RX12) (T := TX12) (N := 89) hx hb hg iX12 hown hK hW kd_66 rfl 61 (lt_b rfl) (hg (Cond.fieldLink RX12 475 "SlabWalkModel" "least" "I") m1375) (fun _ h9 => h9) rfl ((hq_35.i9 66 61 rfl rfl).trans (rfl)) dX12_evenest_39 ?_
      refine lv_isub hx hb dX12_evenest_42 ?_
      refine lv_topi (fun y_43 ey_43 => ?_)
      have ty_43 : y_43.toInt = (G_20.1 66 62).toInt - (G_20.1 66 61).toInt := xI_sub rfl rfl ey_43 (by omega) (by omega)
      refine lv_icmp_gt (tgt := 103) hx hb dX12_evenest_43 rfl (fun c_44 => ?_) (fun c_44 => ?_)
      · have c_44 : y_43.toInt < x_38.toInt := xI_lt rfl rfl c_44
        refine ic_m1 hx hb dX12_evenest_103 ?_
        exact W.iret (v := (-1)) hx hb hr (fun t ht _ => ⟨⟨(-1), G_34, rfl, (Q_evenest_mk ⟨hB_G_34, hF, ⟨r_1, G_2, hX_5, (Or.inr ⟨c_7, ⟨r_10, G_11, hX_14, (Or.inr ⟨c_16, ⟨G_20, hX_23, ⟨x_38, G_34, hX_39, f_41, hB_G_34, hq_35, ⟨y_43, ty_43, (Or.inl ⟨c_44, ⟨rfl, rfl⟩⟩)⟩⟩⟩⟩)⟩⟩)⟩⟩), wd_t ht hW⟩, hS.F ht⟩) hS.2.2 dX12_evenest_104
      · have c_44 : x_38.toInt ≤ y_43.toInt := xI_nlt rfl rfl c_44
        refine lv_aload_n hx hb dX12_evenest_46 rfl (lv_at hl 1 rfl) ?_
        refine S_getI (v := (G_20.1 66 61)) (C := RX12) (T := TX12) (N := 89) hx hb hg iX12 hown hK hW kd_66 rfl 61 (lt_b rfl) (hg (Cond.fieldLink RX12 475 "SlabWalkModel" "least" "I") m1375) (fun _ h9 => h9) rfl ((hq_35.i9 66 61 rfl rfl).trans (rfl)) dX12_evenest_47 ?_
        refine lv_istore (lv' := [(6, .int (G_20.1 66 61)), (5, .int x_38), (0, .ref (a 66)), (4, .int p3)]) hx hb dX12_evenest_50 hl (lt_b rfl) rfl (fun ls hl => ?_)
        refine loop_N (Inv := fun n H locs ls => ∃ (G_45 : GS) (x_49 : Int32), (n : Int) = 61 - x_49.toInt ∧ (0 ≤ x_49.toInt ∧ x_49.toInt ≤ 61) ∧ Rc (St_n_evenest_2 x_38 G_20) ((G_20.1 66 61), G_34) (x_49, G_45) ∧ Wd D k A a G_45 H ∧ Bd G_45 ∧ Fr [103, 76, 97, 98] [(66, 59), (66, 60), (66, 61), (66, 62), (66, 63)] G G_45 ∧ Fr [103] [] G_34 G_45 ∧ va_S A s.heap H locs ∧ lv_has ls 7 [(6, .int x_49), (5, .int x_38), (0, .ref (a 66)), (4, .int p3)]) (fun n_48 H locs ls ih_47 hI => ?_) (61 - (G_20.1 66 61).toInt : Int).toNat ⟨G_34, (G_20.1 66 61), (Int.toNat_of_nonneg (by omega)), ⟨by omega, by omega⟩, Rc.rf, hW, hB_G_34, hF, Fr.rf, hS, lv_sub hl [0, 1, 2, 3] rfl⟩
        obtain ⟨G_45, x_49, hn_52, f_51, hX_50, hW, hB_G_45, hF, hq_46, hS, hl⟩ := hI
        refine lv_iload hx hb dX12_evenest_52 (lv_at hl 0 rfl) ?_
        refine lv_iload hx hb dX12_evenest_54 (lv_at hl 1 rfl) ?_
        refine lv_iadd hx hb dX12_evenest_56 ?_
        refine lv_topi (fun y_53 ey_53 => ?_)
        have ty_53 : y_53.toInt = x_49.toInt + x_38.toInt := xI_add rfl rfl ey_53 (by omega) (by omega)
        refine lv_aload_n hx hb dX12_evenest_57 rfl (lv_at hl 2 rfl) ?_
        refine S_getI (v := (G_20.1 66 62)) (C := RX12) (T := TX12) (N := 89) hx hb hg iX12 hown hK hW kd_66 rfl 62 (lt_b rfl) (hg (Cond.fieldLink RX12 478 "SlabWalkModel" "most" "I") m1376) (fun _ h9 => h9) rfl ((hq_46.i9 66 62 rfl rfl).trans ((hq_35.i9 66 62 rfl rfl).trans (rfl))) dX12_evenest_58 ?_
        refine lv_icmp_gt (tgt := 97) hx hb dX12_evenest_61 rfl (fun c_54 => ?_) (fun c_54 => ?_)
        · have c_54 : (G_20.1 66 62).toInt < y_53.toInt := xI_lt rfl rfl c_54
          obtain ⟨y_55, ey_55⟩ : ∃ q, q = x_38 + 1 := ⟨_, rfl⟩
          have ty_55 : y_55.toInt = x_38.toInt + 1 := xI_add rfl rfl ey_55 (by omega) (by omega)
          refine lv_iinc (v := y_55) (lv' := [(5, .int y_55), (6, .int x_49), (0, .ref (a 66)), (4, .int p3)]) hx hb dX12_evenest_97 hl (k := 1) rfl (by rw [ey_55]; rfl) (lt_b rfl) rfl (fun ls hl => ?_)
          refine lv_goto (tgt := 32) hx hb dX12_evenest_100 rfl ?_
          exact ih_36 (60 - y_55.toInt : Int).toNat (by omega) _ _ _ ⟨G_45, y_55, (Int.toNat_of_nonneg (by omega)), ⟨by omega, by omega⟩, (hX_39.st (St_n_evenest_1_mk ⟨x_38, G_34, y_55, G_45, rfl, rfl, f_41, hB_G_34, ⟨y_43, ty_43, ⟨c_44, ⟨x_49, G_45, hX_50, f_51, hB_G_45, hq_46, ⟨y_53, ty_53, ⟨c_54, ⟨y_55, ty_55, ⟨rfl, rfl⟩⟩⟩⟩⟩⟩⟩⟩)), hW, hB_G_45, hF, (Fr.call9 (rs := [103]) (fs := []) (Fr.call9 (rs := [103]) (fs := []) Fr.rf hq_35 rfl rfl) hq_46 rfl rfl), hS, lv_sub hl [0, 2, 3] rfl⟩
        · have c_54 : y_53.toInt ≤ (G_20.1 66 62).toInt := xI_nlt rfl rfl c_54
          refine lv_aload_n hx hb dX12_evenest_64 rfl (lv_at hl 2 rfl) ?_
          refine lv_iload hx hb dX12_evenest_65 (lv_at hl 0 rfl) ?_
          refine lv_iload hx hb dX12_evenest_67 (lv_at hl 0 rfl) ?_
          refine lv_iload hx hb dX12_evenest_69 (lv_at hl 1 rfl) ?_
          refine lv_iadd hx hb dX12_evenest_71 ?_
          refine lv_topi (fun y_56 ey_56 => ?_)
          have ty_56 : y_56.toInt = x_49.toInt + x_38.toInt := xI_add rfl rfl ey_56 (by omega) (by omega)
          refine S_calli (va_runV (As := [.int x_49, .int y_56]) (rest := []) ⟨hx, hb, hml, hown, hts⟩ (n_isEven l D k A a z G_45 x_49 y_56 ⟨by omega, by omega⟩ ⟨by omega, by omega⟩) (cwV 2 hts (gd_V hgd m1887 m1889 m99 m131 m1890) rfl rfl rfl hd_X12_isEven ⟨Nat.le_of_ble_eq_true rfl, Nat.le_of_ble_eq_true rfl⟩) (pre_V hW hB_G_45 hK hZ hS kd_66 rfl) rfl rfl hl.1 rfl (lv_room (Nat.le_of_ble_eq_true rfl)) dX12_evenest_72 ⟨Nat.le_of_ble_eq_true rfl, Nat.le_of_ble_eq_true rfl⟩) hS (fun r_57 G_58 H locs hpo hW hS => ?_)
          have hX_61 : Q_isEven x_49 y_56 G_45 r_57 G_58 := hpo
          obtain ⟨hB_G_58, hq_59, f_62, -⟩ := hpo
          have hF := hF.call9 hq_59 rfl rfl
          refine lv_if_eq (tgt := 91) hx hb dX12_evenest_75 rfl (fun c_63 => ?_) (fun c_63 => ?_)
          · have c_63 : r_57.toInt = 0 := xI_eq rfl rfl c_63
            obtain ⟨y_64, ey_64⟩ : ∃ q, q = x_49 + 1 := ⟨_, rfl⟩
            have ty_64 : y_64.toInt = x_49.toInt + 1 := xI_add rfl rfl ey_64 (by omega) (by omega)
            refine lv_iinc (v := y_64) (lv' := [(6, .int y_64), (5, .int x_38), (0, .ref (a 66)), (4, .int p3)]) hx hb dX12_evenest_91 hl (k := 0) rfl (by rw [ey_64]; rfl) (lt_b rfl) rfl (fun ls hl => ?_)
            refine lv_goto (tgt := 52) hx hb dX12_evenest_94 rfl ?_
            exact ih_47 (61 - y_64.toInt : Int).toNat (by omega) _ _ _ ⟨G_58, y_64, (Int.toNat_of_nonneg (by omega)), ⟨by omega, by omega⟩, (hX_50.st (St_n_evenest_2_mk ⟨x_49, G_45, y_64, G_58, rfl, rfl, f_51, hB_G_45, ⟨y_53, ty_53, ⟨c_54, ⟨y_56, ty_56, ⟨r_57, G_58, hX_61, ⟨c_63, ⟨y_64, ty_64, ⟨rfl, rfl⟩⟩⟩⟩⟩⟩⟩⟩)), hW, hB_G_58, hF, (Fr.call9 (rs := [103]) (fs := []) (Fr.call9 (rs := [103]) (fs := []) Fr.rf hq_46 rfl rfl) hq_59 rfl rfl), hS, lv_sub hl [0, 1, 2, 3] rfl⟩
          · have c_63 : r_57.toInt ≠ 0 := xI_ne rfl rfl c_63
            refine lv_iload hx hb dX12_evenest_78 (lv_at hl 3 rfl) ?_
            refine lv_if_ne (tgt := 88) hx hb dX12_evenest_80 rfl (fun c_65 => ?_) (fun c_65 => ?_)
            · have c_65 : p3.toInt ≠ 0 := xI_ne rfl rfl c_65
              refine lv_iload hx hb dX12_evenest_88 (lv_at hl 0 rfl) ?_
              exact W.iret (v := x_49) hx hb hr (fun t ht _ => ⟨⟨x_49, G_58, rfl, (Q_evenest_mk ⟨hB_G_58, hF, ⟨r_1, G_2, hX_5, (Or.inr ⟨c_7, ⟨r_10, G_11, hX_14, (Or.inr ⟨c_16, ⟨G_20, hX_23, ⟨x_38, G_34, hX_39, f_41, hB_G_34, hq_35, ⟨y_43, ty_43, (Or.inr ⟨c_44, ⟨x_49, G_45, hX_50, f_51, hB_G_45, hq_46, ⟨y_53, ty_53, ⟨c_54, ⟨y_56, ty_56, ⟨r_57, G_58, hX_61, ⟨c_63, (Or.inr ⟨c_65, ⟨rfl, rfl⟩⟩)⟩⟩⟩⟩⟩⟩⟩)⟩⟩⟩⟩)⟩⟩)⟩⟩), wd_t ht hW⟩, hS.F ht⟩) hS.2.2 dX12_evenest_90
            · have c_65 : p3.toInt = 0 := xI_eq rfl rfl c_65
              refine lv_iload hx hb dX12_evenest_83 (lv_at hl 1 rfl) ?_
              refine lv_goto (tgt := 90) hx hb dX12_evenest_85 rfl ?_
              exact W.iret (v := x_38) hx hb hr (fun t ht _ => ⟨⟨x_38, G_58, rfl, (Q_evenest_mk ⟨hB_G_58, hF, ⟨r_1, G_2, hX_5, (Or.inr ⟨c_7, ⟨r_10, G_11, hX_14, (Or.inr ⟨c_16, ⟨G_20, hX_23, ⟨x_38, G_34, hX_39, f_41, hB_G_34, hq_35, ⟨y_43, ty_43, (Or.inr ⟨c_44, ⟨x_49, G_45, hX_50, f_51, hB_G_45, hq_46, ⟨y_53, ty_53, ⟨c_54, ⟨y_56, ty_56, ⟨r_57, G_58, hX_61, ⟨c_63, (Or.inl ⟨c_65, ⟨rfl, rfl⟩⟩)⟩⟩⟩⟩⟩⟩⟩)⟩⟩⟩⟩)⟩⟩)⟩⟩), wd_t ht hW⟩, hS.F ht⟩) hS.2.2 dX12_evenest_90
    · have c_16 : r_10.toInt = 0 := xI_eq rfl rfl c_16
      refine ic_m1 hx hb dX12_evenest_20 ?_
      exact W.iret (v := (-1)) hx hb hr (fun t ht _ => ⟨⟨(-1), G_11, rfl, (Q_evenest_mk ⟨hB_G_11, hF, ⟨r_1, G_2, hX_5, (Or.inr ⟨c_7, ⟨r_10, G_11, hX_14, (Or.inl ⟨c_16, ⟨rfl, rfl⟩⟩)⟩⟩)⟩⟩), wd_t ht hW⟩, hS.F ht⟩) hS.2.2 dX12_evenest_21

set_option maxHeartbeats 4000000 in
set_option maxRecDepth 100000 in
theorem n_ways (l : Launch) (D : va_G) (k : KT) (A : Nat → Prop) (a : Nat → Nat) (z : SK) (G : GS) (p0 : Int32) (p1 : Int32) (p2 : Int32) (p3 : Int32) (hP9 : gP G = 1) : Met l yX12_ways (WS yX12_ways cX12_ways 8 (some .long)) ({ frames := 5, cells := 0, slots := 0, locals := 117 }) (va_Pc [.ref (a 66), .int p0, .int p1, .int p2, .int p3] (cW D k A a z G)) (va_Ql (fun (r : Int64) (G1 : GS) => Q_ways p0 p1 p2 p3 G r G1) (fun (G1 : GS) t => Wd D k A a G1 t.heap) A) 0 0 A := by
  refine Met.ofW (cc := cX12_ways) (maxL := 8) (ret := (some .long)) (by decide) rfl ?_
  intro p e s m args below meth c s₁ B hml hv
  obtain ⟨rfl, hW, hB_G, hK, hZ⟩ := hv
  have hx := B.exec
  have hb := B.bytes
  have hr := B.returns
  have hts := atoms_spec (ws := WS yX12_ways cX12_ways 8 (some .long)) B.pre
  have hgd : ∀ w ∈ gd, w ∈ WS yX12_ways cX12_ways 8 (some .long) := fun w h => List.mem_cons_of_mem _ h
  have hg : ∀ w ∈ gd, w.before _ s = true := fun w h => hts w (hgd w h)
  have hown : s.vm.findClass RX12 = some m.cls := findClass_of_methodNamed B.named
  have hS : va_S A s.heap s.heap [] := va_S.rf
  have hF : Fr [101, 102, 76, 97, 98] [(66, 59), (66, 60), (66, 61), (66, 62), (66, 63)] G G := Fr.rf
  have hl := lv_entry ([.ref (a 66), .int p0, .int p1, .int p2, .int p3]) (n := 8) (Nat.le_of_ble_eq_true rfl)
  rw [lg_entry_eq]
  generalize (lg_sl ([.ref (a 66), .int p0, .int p1, .int p2, .int p3]) ++ List.replicate (8 - (lg_sl ([.ref (a 66), .int p0, .int p1, .int p2, .int p3])).length) Slot.unset).toArray = ls at hl ⊢
  have hl : lv_has ls 8 [(0, .ref (a 66)), (1, .int p0), (2, .int p1), (3, .int p2), (4, .int p3)] := hl
  refine lv_aload_n hx hb dX12_ways_0 rfl (lv_at hl 0 rfl) ?_
  refine lv_iload_n hx hb dX12_ways_1 rfl (lv_at hl 1 rfl) ?_
  refine lv_iload_n hx hb dX12_ways_2 rfl (lv_at hl 2 rfl) ?_
  refine lv_iload_n hx hb dX12_ways_3 rfl (lv_at hl 3 rfl) ?_
  refine S_calli (va_runV (As := [.int p0, .int p1, .int p2]) (rest := []) ⟨hx, hb, hml, hown, hts⟩ (n_isAsked l D k A a z G p0 p1 p2 ) (cwV 3 hts (gd_V hgd m1826 m1828 m89 m131 m1829) rfl rfl rfl hd_X12_isAsked ⟨Nat.le_of_ble_eq_true rfl, Nat.le_of_ble_eq_true rfl⟩) (pre_V hW hB_G hK hZ hS kd_66 rfl) rfl rfl hl.1 rfl (lv_room (Nat.le_of_ble_eq_true rfl)) dX12_ways_4 ⟨Nat.le_of_ble_eq_true rfl, Nat.le_of_ble_eq_true rfl⟩) hS (fun r_1 G_2 H locs hpo hW hS => ?_)
  have hX_5 : Q_isAsked p0 p1 p2 G r_1 G_2 := hpo
  obtain ⟨hB_G_2, hq_3, f_6, hp_4, -⟩ := hpo
  have hF := hF.call9 hq_3 rfl rfl
  refine lv_if_eq (tgt := 21) hx hb dX12_ways_7 rfl (fun c_7 => ?_) (fun c_7 => ?_)
  · have c_7 : r_1.toInt = 0 := xI_eq rfl rfl c_7
    refine lv_ldc2 (v := (-1)) hx hb hown (hg (Cond.constantLong RX12 517 (-1)) m1874) dX12_ways_21 ?_
    exact W.lret (v := (-1)) hx hb hr (fun t ht _ => ⟨⟨(-1), G_2, rfl, (Q_ways_mk ⟨hB_G_2, hF, ⟨r_1, G_2, hX_5, (Or.inl ⟨c_7, ⟨rfl, rfl⟩⟩)⟩⟩), wd_t ht hW⟩, hS.F ht⟩) hS.2.2 dX12_ways_24
  · have c_7 : r_1.toInt ≠ 0 := xI_ne rfl rfl c_7
    refine lv_iload hx hb dX12_ways_10 (lv_at hl 4 rfl) ?_
    refine ic_1 hx hb dX12_ways_12 ?_
    refine lv_bipush (v := 60) hx hb dX12_ways_13 (by decide) ?_
    have qc_8 : (1 : Int32).toInt = 1 := rfl
    have qc_9 : (60 : Int32).toInt = 60 := rfl
    refine S_calli (va_runS (As := [.int p3, .int 1, .int 60]) (rest := []) ⟨hx, hb, hml, hown, hts⟩ (n_isIn l D k A a z G_2 p3 1 60 ) (va_cwS 3 hts (gd_S hgd m1781 m1782 m131 m1783) rfl rfl rfl hd_X12_isIn.2 ⟨Nat.le_of_ble_eq_true rfl, Nat.le_of_ble_eq_true rfl⟩) (pre_S hW hB_G_2 hK hZ hS) rfl rfl hl.1 rfl (lv_room (Nat.le_of_ble_eq_true rfl)) dX12_ways_15 ⟨Nat.le_of_ble_eq_true rfl, Nat.le_of_ble_eq_true rfl⟩) hS (fun r_10 G_11 H locs hpo hW hS => ?_)
    have hX_14 : Q_isIn p3 1 60 G_2 r_10 G_11 := hpo
    obtain ⟨hB_G_11, hq_12, f_15, hp_13, -⟩ := hpo
    have hF := hF.call9 hq_12 rfl rfl
    refine lv_if_ne (tgt := 25) hx hb dX12_ways_18 rfl (fun c_16 => ?_) (fun c_16 => ?_)
    · have c_16 : r_10.toInt ≠ 0 := xI_ne rfl rfl c_16
      refine lv_aload_n hx hb dX12_ways_25 rfl (lv_at hl 0 rfl) ?_
      refine lv_iload_n hx hb dX12_ways_26 rfl (lv_at hl 1 rfl) ?_
      refine lv_iload_n hx hb dX12_ways_27 rfl (lv_at hl 2 rfl) ?_
      refine lv_iload_n hx hb dX12_ways_28 rfl (lv_at hl 3 rfl) ?_
      have fr_17 : Fr [] [] G G_11 := (Fr.call9 (rs := []) (fs := []) (Fr.call9 (rs := []) (fs := []) Fr.rf hq_3 rfl rfl) hq_12 rfl rfl)
      have g_18 : gP G_11 = gP G := gP_fr fr_17 (gr_q rfl) (gf_q rfl)
      refine S_callv (va_runV (As := [.int p0, .int p1, .int p2]) (rest := []) ⟨hx, hb, hml, hown, hts⟩ (n_layStreet l D k A a z G_11 p0 p1 p2 ⟨by omega, by omega⟩ ⟨by omega, by omega⟩ (by omega)) (cwV 3 hts (gd_V hgd m1834 m1836 m91 m131 m1837) rfl rfl rfl hd_X12_layStreet ⟨Nat.le_of_ble_eq_true rfl, Nat.le_of_ble_eq_true rfl⟩) (pre_V hW hB_G_11 hK hZ hS kd_66 rfl) rfl rfl hl.1 rfl (lv_room (Nat.le_of_ble_eq_true rfl)) dX12_ways_29 ⟨Nat.le_of_ble_eq_true rfl, Nat.le_of_ble_eq_true rfl⟩) hS (fun G_20 H locs hpo hW hS => ?_)
      have hX_23 : Q_layStreet p0 p1 p2 G_11 G_20 := hpo
      obtain ⟨hB_G_20, hq_21, hp_22, -⟩ := hpo
      have hF := hF.call9 hq_21 rfl rfl
      refine ic_0 hx hb dX12_ways_32 ?_
      refine lv_istore (lv' := [(5, .int 0), (0, .ref (a 66)), (1, .int p0), (2, .int p1), (3, .int p2), (4, .int p3)]) hx hb dX12_ways_33 hl (lt_b rfl) rfl (fun ls hl => ?_)
      have qc_30 : (0 : Int32).toInt = 0 := rfl
      refine loop_N (Inv := fun n H locs ls => ∃ (G_24 : GS) (x_28 : Int32), (n : Int) = 1024 - x_28.toInt ∧ (0 ≤ x_28.toInt ∧ x_28.toInt ≤ 1024) ∧ Rc (St_n_ways_1 G_20) (0, G_20) (x_28, G_24) ∧ Wd D k A a G_24 H ∧ Bd G_24 ∧ Fr [101, 102, 76, 97, 98] [(66, 59), (66, 60), (66, 61), (66, 62), (66, 63)] G G_24 ∧ Fr [101] [] G_20 G_24 ∧ va_S A s.heap H locs ∧ lv_has ls 8 [(5, .int x_28), (0, .ref (a 66)), (4, .int p3)]) (fun n_27 H locs ls ih_26 hI => ?_) (1024 - 0 : Int).toNat ⟨G_20, 0, (Int.toNat_of_nonneg (by omega)), ⟨by omega, by omega⟩, Rc.rf, hW, hB_G_20, hF, Fr.rf, hS, lv_sub hl [0, 1, 5] rfl⟩
      obtain ⟨G_24, x_28, hn_32, f_31, hX_29, hW, hB_G_24, hF, hq_25, hS, hl⟩ := hI
      refine lv_iload hx hb dX12_ways_35 (lv_at hl 0 rfl) ?_
      refine lv_sipush (v := 1024) hx hb dX12_ways_37 (by decide) ?_
      refine lv_icmp_ge (tgt := 101) hx hb dX12_ways_40 rfl (fun c_33 => ?_) (fun c_33 => ?_)
      · have c_33 : 1024 ≤ x_28.toInt := xI_le rfl rfl c_33
        refine ic_1 hx hb dX12_ways_101 ?_
        refine lv_istore (lv' := [(5, .int 1), (0, .ref (a 66)), (4, .int p3)]) hx hb dX12_ways_102 hl (lt_b rfl) rfl (fun ls hl => ?_)
        have qc_40 : (1 : Int32).toInt = 1 := rfl
        refine loop_N (Inv := fun n H locs ls => ∃ (G_34 : GS) (x_38 : Int32), (n : Int) = 60 - x_38.toInt ∧ (1 ≤ x_38.toInt ∧ x_38.toInt ≤ 60) ∧ Rc (St_n_ways_2 p3) (1, G_24) (x_38, G_34) ∧ Wd D k A a G_34 H ∧ Bd G_34 ∧ Fr [101, 102, 76, 97, 98] [(66, 59), (66, 60), (66, 61), (66, 62), (66, 63)] G G_34 ∧ Fr [101, 102] [] G_24 G_34 ∧ va_S A s.heap H locs ∧ lv_has ls 8 [(5, .int x_38), (0, .ref (a 66)), (4, .int p3)]) (fun n_37 H locs ls ih_36 hI => ?_) (60 - 1 : Int).toNat ⟨G_24, 1, (Int.toNat_of_nonneg (by omega)), ⟨by omega, by omega⟩, Rc.rf, hW, hB_G_24, hF, Fr.rf, hS, lv_sub hl [0, 1, 2] rfl⟩
        obtain ⟨G_34, x_38, hn_42, f_41, hX_39, hW, hB_G_34, hF, hq_35, hS, hl⟩ := hI
        refine lv_iload hx hb dX12_ways_104 (lv_at hl 0 rfl) ?_
        refine lv_iload hx hb dX12_ways_106 (lv_at hl 2 rfl) ?_
        refine lv_icmp_ge (tgt := 219) hx hb dX12_ways_108 rfl (fun c_43 => ?_) (fun c_43 => ?_)
        · have c_43 : p3.toInt ≤ x_38.toInt := xI_le rfl rfl c_43
          refine lv_lconst (v := 0) hx hb dX12_ways_219 (by decide) ?_
          refine lv_lstore (lv' := [(5, .long 0), (0, .ref (a 66)), (4, .int p3)]) hx hb dX12_ways_220 hl (lt_b rfl) rfl (fun ls hl => ?_)
          refine ic_0 hx hb dX12_ways_222 ?_
          refine lv_istore (lv' := [(7, .int 0), (5, .long 0), (0, .ref (a 66)), (4, .int p3)]) hx hb dX12_ways_223 hl (lt_b rfl) rfl (fun ls hl => ?_)
          have qc_51 : (0 : Int32).toInt = 0 := rfl
          refine loop_N (Inv := fun n H locs ls => ∃ (G_44 : GS) (x_48 : Int32) (x_49 : Int64), (n : Int) = 800 - x_48.toInt ∧ (0 ≤ x_48.toInt ∧ x_48.toInt ≤ 800) ∧ Rc (St_n_ways_3) (0, 0, G_34) (x_48, x_49, G_44) ∧ Wd D k A a G_44 H ∧ Bd G_44 ∧ Fr [101, 102, 76, 97, 98] [(66, 59), (66, 60), (66, 61), (66, 62), (66, 63)] G G_44 ∧ Fr [] [] G_34 G_44 ∧ va_S A s.heap H locs ∧ lv_has ls 8 [(7, .int x_48), (5, .long x_49), (0, .ref (a 66))]) (fun n_47 H locs ls ih_46 hI => ?_) (800 - 0 : Int).toNat ⟨G_34, 0, 0, (Int.toNat_of_nonneg (by omega)), ⟨by omega, by omega⟩, Rc.rf, hW, hB_G_34, hF, Fr.rf, hS, lv_sub hl [0, 1, 2] rfl⟩
          obtain ⟨G_44, x_48, x_49, hn_53, f_52, hX_50, hW, hB_G_44, hF, hq_45, hS, hl⟩ := hI
          refine lv_iload hx hb dX12_ways_225 (lv_at hl 0 rfl) ?_
          refine lv_sipush (v := 800) hx hb dX12_ways_227 (by decide) ?_
          refine lv_icmp_ge (tgt := 265) hx hb dX12_ways_230 rfl (fun c_54 => ?_) (fun c_54 => ?_)
          · have c_54 : 800 ≤ x_48.toInt := xI_le rfl rfl c_54
            refine lv_lload hx hb dX12_ways_265 (lv_at hl 1 rfl) ?_
            exact W.lret (v := x_49) hx hb hr (fun t ht _ => ⟨⟨x_49, G_44, rfl, (Q_ways_mk ⟨hB_G_44, hF, ⟨r_1, G_2, hX_5, (Or.inr ⟨c_7, ⟨r_10, G_11, hX_14, (Or.inr ⟨c_16, ⟨G_20, hX_23, ⟨x_28, G_24, hX_29, f_31, hB_G_24, hq_25, ⟨c_33, ⟨x_38, G_34, hX_39, f_41, hB_G_34, hq_35, ⟨c_43, ⟨x_48, x_49, G_44, hX_50, f_52, hB_G_44, hq_45, ⟨c_54, ⟨rfl, rfl⟩⟩⟩⟩⟩⟩⟩⟩⟩)⟩⟩)⟩⟩), wd_t ht hW⟩, hS.F ht⟩) hS.2.2 dX12_ways_267
          · have c_54 : x_48.toInt < 800 := xI_nle rfl rfl c_54
            refine lv_aload_n hx hb dX12_ways_233 rfl (lv_at hl 2 rfl) ?_
            refine lv_iload hx hb dX12_ways_234 (lv_at hl 0 rfl) ?_
            refine ic_2 hx hb dX12_ways_236 ?_
            refine lv_idiv hx hb dX12_ways_237 (by decide) ?_
            refine lv_topi (fun y_55 ey_55 => ?_)
            have ty_55 : y_55.toInt = x_48.toInt / 2 := xI_div rfl ey_55 (by decide) (by omega)
            have b_56 : 0 ≤ (G_20.1 66 59).toInt ∧ (G_20.1 66 59).toInt ≤ 400 := bd_66_59 hB_G_20
            have g_57 : (G_44.1 66 59).toInt = (G_20.1 66 59).toInt := (congrArg Int32.toInt (show G_44.1 66 59 = (G_20.1 66 59) from ((hq_45.i9 66 59 rfl rfl).trans ((hq_35.i9 66 59 rfl rfl).trans (hq_25.i9 66 59 rfl rfl)))))
            have b_58 : 0 ≤ (G_20.1 66 60).toInt ∧ (G_20.1 66 60).toInt ≤ 12 := bd_66_60 hB_G_20
            have g_59 : (G_44.1 66 60).toInt = (G_20.1 66 60).toInt := (congrArg Int32.toInt (show G_44.1 66 60 = (G_20.1 66 60) from ((hq_45.i9 66 60 rfl rfl).trans ((hq_35.i9 66 60 rfl rfl).trans (hq_25.i9 66 60 rfl rfl)))))
            have b_60 : 0 ≤ (G_20.1 66 62).toInt ∧ (G_20.1 66 62).toInt ≤ 60 := bd_66_62 hB_G_20
            have g_61 : (G_44.1 66 62).toInt = (G_20.1 66 62).toInt := (congrArg Int32.toInt (show G_44.1 66 62 = (G_20.1 66 62) from ((hq_45.i9 66 62 rfl rfl).trans ((hq_35.i9 66 62 rfl rfl).trans (hq_25.i9 66 62 rfl rfl)))))
            refine S_calli (va_runV (As := [.int y_55]) (rest := []) ⟨hx, hb, hml, hown, hts⟩ (n_isEnd l D k A a z G_44 y_55 ⟨by omega, by omega⟩) (cwV 1 hts (gd_V hgd m1854 m1856 m95 m131 m1857) rfl rfl rfl hd_X12_isEnd ⟨Nat.le_of_ble_eq_true rfl, Nat.le_of_ble_eq_true rfl⟩) (pre_V hW hB_G_44 hK hZ hS kd_66 rfl) rfl rfl hl.1 rfl (lv_room (Nat.le_of_ble_eq_true rfl)) dX12_ways_238 ⟨Nat.le_of_ble_eq_true rfl, Nat.le_of_ble_eq_true rfl⟩) hS (fun r_62 G_63 H locs hpo hW hS => ?_)
            have hX_66 : Q_isEnd y_55 G_44 r_62 G_63 := hpo
            obtain ⟨hB_G_63, hq_64, f_67, hp_65, -⟩ := hpo
            have hF := hF.call9 hq_64 rfl rfl
            refine lv_if_eq (tgt := 259) hx hb dX12_ways_241 rfl (fun c_68 => ?_) (fun c_68 => ?_)
            · have c_68 : r_62.toInt = 0 := xI_eq rfl rfl c_68
              obtain ⟨y_69, ey_69⟩ : ∃ q, q = x_48 + 1 := ⟨_, rfl⟩
              have ty_69 : y_69.toInt = x_48.toInt + 1 := xI_add rfl rfl ey_69 (by omega) (by omega)
              refine lv_iinc (v := y_69) (lv' := [(7, .int y_69), (5, .long x_49), (0, .ref (a 66))]) hx hb dX12_ways_259 hl (k := 0) rfl (by rw [ey_69]; rfl) (lt_b rfl) rfl (fun ls hl => ?_)
              refine lv_goto (tgt := 225) hx hb dX12_ways_262 rfl ?_
              exact ih_46 (800 - y_69.toInt : Int).toNat (by omega) _ _ _ ⟨G_63, y_69, x_49, (Int.toNat_of_nonneg (by omega)), ⟨by omega, by omega⟩, (hX_50.st (St_n_ways_3_mk ⟨x_48, x_49, G_44, y_69, x_49, G_63, rfl, rfl, f_52, hB_G_44, ⟨c_54, ⟨y_55, ty_55, ⟨r_62, G_63, hX_66, (Or.inl ⟨c_68, ⟨y_69, ty_69, ⟨rfl, rfl, rfl⟩⟩⟩)⟩⟩⟩⟩)), hW, hB_G_63, hF, (Fr.call9 (rs := []) (fs := []) (Fr.call9 (rs := []) (fs := []) Fr.rf hq_45 rfl rfl) hq_64 rfl rfl), hS, lv_sub hl [0, 1, 2] rfl⟩
            · have c_68 : r_62.toInt ≠ 0 := xI_ne rfl rfl c_68
              refine lv_lload hx hb dX12_ways_244 (lv_at hl 1 rfl) ?_
              refine lv_aload_n hx hb dX12_ways_246 rfl (lv_at hl 2 rfl) ?_
              refine S_getR (n := 101) (C := RX12) (T := TX12) (N := 89) hx hb hg iX12 hown hK hW kd_66 rfl 67 (lt_b rfl) (hg (Cond.fieldLink RX12 124 "SlabWalkModel" "ways" "[J") m1381) (fun _ h9 => h9) rfl dX12_ways_247 ?_
              refine lv_iload hx hb dX12_ways_250 (lv_at hl 0 rfl) ?_
              refine S_lald hx hb hK hW kd_101 (vin (by omega) (by omega)) dX12_ways_252 (fun y_70 ey_70 => ?_)
              refine lv_ladd hx hb dX12_ways_253 ?_
              refine lv_topl (fun y_71 ey_71 => ?_)
              refine S_calll (va_runS (As := [.long y_71]) (rest := []) ⟨hx, hb, hml, hown, hts⟩ (n_capped l D k A a z G_63 y_71 ) (va_cwS 1 hts (gd_S hgd m1879 m1880 m131 m1881) rfl rfl rfl hd_X12_capped.2 ⟨Nat.le_of_ble_eq_true rfl, Nat.le_of_ble_eq_true rfl⟩) (pre_S hW hB_G_63 hK hZ hS) rfl rfl hl.1 rfl (lv_room (Nat.le_of_ble_eq_true rfl)) dX12_ways_254 ⟨Nat.le_of_ble_eq_true rfl, Nat.le_of_ble_eq_true rfl⟩) hS (fun r_72 G_73 H locs hpo hW hS => ?_)
              have hX_76 : Q_capped y_71 G_63 r_72 G_73 := hpo
              obtain ⟨hB_G_73, hq_74, -⟩ := hpo
              have hF := hF.call9 hq_74 rfl rfl
              refine lv_lstore (lv' := [(5, .long r_72), (7, .int x_48), (0, .ref (a 66))]) hx hb dX12_ways_257 hl (lt_b rfl) rfl (fun ls hl => ?_)
              obtain ⟨y_77, ey_77⟩ : ∃ q, q = x_48 + 1 := ⟨_, rfl⟩
              have ty_77 : y_77.toInt = x_48.toInt + 1 := xI_add rfl rfl ey_77 (by omega) (by omega)
              refine lv_iinc (v := y_77) (lv' := [(7, .int y_77), (5, .long r_72), (0, .ref (a 66))]) hx hb dX12_ways_259 hl (k := 1) rfl (by rw [ey_77]; rfl) (lt_b rfl) rfl (fun ls hl => ?_)
              refine lv_goto (tgt := 225) hx hb dX12_ways_262 rfl ?_
              exact ih_46 (800 - y_77.toInt : Int).toNat (by omega) _ _ _ ⟨G_73, y_77, r_72, (Int.toNat_of_nonneg (by omega)), ⟨by omega, by omega⟩, (hX_50.st (St_n_ways_3_mk ⟨x_48, x_49, G_44, y_77, r_72, G_73, rfl, rfl, f_52, hB_G_44, ⟨c_54, ⟨y_55, ty_55, ⟨r_62, G_63, hX_66, (Or.inr ⟨c_68, ⟨y_70, ey_70, ⟨y_71, ey_71, ⟨r_72, G_73, hX_76, ⟨y_77, ty_77, ⟨rfl, rfl, rfl⟩⟩⟩⟩⟩⟩)⟩⟩⟩⟩)), hW, hB_G_73, hF, (Fr.call9 (rs := []) (fs := []) (Fr.call9 (rs := []) (fs := []) (Fr.call9 (rs := []) (fs := []) Fr.rf hq_45 rfl rfl) hq_64 rfl rfl) hq_74 rfl rfl), hS, lv_sub hl [0, 1, 2] rfl⟩
        · have c_43 : x_38.toInt < p3.toInt := xI_nle rfl rfl c_43
          refine ic_0 hx hb dX12_ways_111 ?_
          refine lv_istore (lv' := [(6, .int 0), (5, .int x_38), (0, .ref (a 66)), (4, .int p3)]) hx hb dX12_ways_112 hl (lt_b rfl) rfl (fun ls hl => ?_)
          have qc_84 : (0 : Int32).toInt = 0 := rfl
          refine loop_N (Inv := fun n H locs ls => ∃ (G_78 : GS) (x_82 : Int32), (n : Int) = 1024 - x_82.toInt ∧ (0 ≤ x_82.toInt ∧ x_82.toInt ≤ 1024) ∧ Rc (St_n_ways_4) (0, G_34) (x_82, G_78) ∧ Wd D k A a G_78 H ∧ Bd G_78 ∧ Fr [101, 102, 76, 97, 98] [(66, 59), (66, 60), (66, 61), (66, 62), (66, 63)] G G_78 ∧ Fr [102] [] G_34 G_78 ∧ va_S A s.heap H locs ∧ lv_has ls 8 [(6, .int x_82), (5, .int x_38), (0, .ref (a 66)), (4, .int p3)]) (fun n_81 H locs ls ih_80 hI => ?_) (1024 - 0 : Int).toNat ⟨G_34, 0, (Int.toNat_of_nonneg (by omega)), ⟨by omega, by omega⟩, Rc.rf, hW, hB_G_34, hF, Fr.rf, hS, lv_sub hl [0, 1, 2, 3] rfl⟩
          obtain ⟨G_78, x_82, hn_86, f_85, hX_83, hW, hB_G_78, hF, hq_79, hS, hl⟩ := hI
          refine lv_iload hx hb dX12_ways_114 (lv_at hl 0 rfl) ?_
          refine lv_sipush (v := 1024) hx hb dX12_ways_116 (by decide) ?_
          refine lv_icmp_ge (tgt := 136) hx hb dX12_ways_119 rfl (fun c_87 => ?_) (fun c_87 => ?_)
          · have c_87 : 1024 ≤ x_82.toInt := xI_le rfl rfl c_87
            refine ic_0 hx hb dX12_ways_136 ?_
            refine lv_istore (lv' := [(6, .int 0), (5, .int x_38), (0, .ref (a 66)), (4, .int p3)]) hx hb dX12_ways_137 hl (lt_b rfl) rfl (fun ls hl => ?_)
            have qc_94 : (0 : Int32).toInt = 0 := rfl
            refine loop_N (Inv := fun n H locs ls => ∃ (G_88 : GS) (x_92 : Int32), (n : Int) = 800 - x_92.toInt ∧ (0 ≤ x_92.toInt ∧ x_92.toInt ≤ 800) ∧ Rc (St_n_ways_5) (0, G_78) (x_92, G_88) ∧ Wd D k A a G_88 H ∧ Bd G_88 ∧ Fr [101, 102, 76, 97, 98] [(66, 59), (66, 60), (66, 61), (66, 62), (66, 63)] G G_88 ∧ Fr [102] [] G_78 G_88 ∧ va_S A s.heap H locs ∧ lv_has ls 8 [(6, .int x_92), (5, .int x_38), (0, .ref (a 66)), (4, .int p3)]) (fun n_91 H locs ls ih_90 hI => ?_) (800 - 0 : Int).toNat ⟨G_78, 0, (Int.toNat_of_nonneg (by omega)), ⟨by omega, by omega⟩, Rc.rf, hW, hB_G_78, hF, Fr.rf, hS, lv_sub hl [0, 1, 2, 3] rfl⟩
            obtain ⟨G_88, x_92, hn_96, f_95, hX_93, hW, hB_G_88, hF, hq_89, hS, hl⟩ := hI
            refine lv_iload hx hb dX12_ways_139 (lv_at hl 0 rfl) ?_
            refine lv_sipush (v := 800) hx hb dX12_ways_141 (by decide) ?_
            refine lv_icmp_ge (tgt := 182) hx hb dX12_ways_144 rfl (fun c_97 => ?_) (fun c_97 => ?_)
            · have c_97 : 800 ≤ x_92.toInt := xI_le rfl rfl c_97
              refine ic_0 hx hb dX12_ways_182 ?_
              refine lv_istore (lv' := [(6, .int 0), (5, .int x_38), (0, .ref (a 66)), (4, .int p3)]) hx hb dX12_ways_183 hl (lt_b rfl) rfl (fun ls hl => ?_)
              have qc_104 : (0 : Int32).toInt = 0 := rfl
              refine loop_N (Inv := fun n H locs ls => ∃ (G_98 : GS) (x_102 : Int32), (n : Int) = 1024 - x_102.toInt ∧ (0 ≤ x_102.toInt ∧ x_102.toInt ≤ 1024) ∧ Rc (St_n_ways_6) (0, G_88) (x_102, G_98) ∧ Wd D k A a G_98 H ∧ Bd G_98 ∧ Fr [101, 102, 76, 97, 98] [(66, 59), (66, 60), (66, 61), (66, 62), (66, 63)] G G_98 ∧ Fr [101] [] G_88 G_98 ∧ va_S A s.heap H locs ∧ lv_has ls 8 [(6, .int x_102), (5, .int x_38), (0, .ref (a 66)), (4, .int p3)]) (fun n_101 H locs ls ih_100 hI => ?_) (1024 - 0 : Int).toNat ⟨G_88, 0, (Int.toNat_of_nonneg (by omega)), ⟨by omega, by omega⟩, Rc.rf, hW, hB_G_88, hF, Fr.rf, hS, lv_sub hl [0, 1, 2, 3] rfl⟩
              obtain ⟨G_98, x_102, hn_106, f_105, hX_103, hW, hB_G_98, hF, hq_99, hS, hl⟩ := hI
              refine lv_iload hx hb dX12_ways_185 (lv_at hl 0 rfl) ?_
              refine lv_sipush (v := 1024) hx hb dX12_ways_187 (by decide) ?_
              refine lv_icmp_ge (tgt := 213) hx hb dX12_ways_190 rfl (fun c_107 => ?_) (fun c_107 => ?_)
              · have c_107 : 1024 ≤ x_102.toInt := xI_le rfl rfl c_107
                obtain ⟨y_108, ey_108⟩ : ∃ q, q = x_38 + 1 := ⟨_, rfl⟩
                have ty_108 : y_108.toInt = x_38.toInt + 1 := xI_add rfl rfl ey_108 (by omega) (by omega)
                refine lv_iinc (v := y_108) (lv' := [(5, .int y_108), (6, .int x_102), (0, .ref (a 66)), (4, .int p3)]) hx hb dX12_ways_213 hl (k := 1) rfl (by rw [ey_108]; rfl) (lt_b rfl) rfl (fun ls hl => ?_)
                refine lv_goto (tgt := 104) hx hb dX12_ways_216 rfl ?_
                exact ih_36 (60 - y_108.toInt : Int).toNat (by omega) _ _ _ ⟨G_98, y_108, (Int.toNat_of_nonneg (by omega)), ⟨by omega, by omega⟩, (hX_39.st (St_n_ways_2_mk ⟨x_38, G_34, y_108, G_98, rfl, rfl, f_41, hB_G_34, ⟨c_43, ⟨x_82, G_78, hX_83, f_85, hB_G_78, hq_79, ⟨c_87, ⟨x_92, G_88, hX_93, f_95, hB_G_88, hq_89, ⟨c_97, ⟨x_102, G_98, hX_103, f_105, hB_G_98, hq_99, ⟨c_107, ⟨y_108, ty_108, ⟨rfl, rfl⟩⟩⟩⟩⟩⟩⟩⟩⟩⟩)), hW, hB_G_98, hF, (Fr.call9 (rs := [101, 102]) (fs := []) (Fr.call9 (rs := [101, 102]) (fs := []) (Fr.call9 (rs := [101, 102]) (fs := []) (Fr.call9 (rs := [101, 102]) (fs := []) Fr.rf hq_35 rfl rfl) hq_79 rfl rfl) hq_89 rfl rfl) hq_99 rfl rfl), hS, lv_sub hl [0, 2, 3] rfl⟩
              · have c_107 : x_102.toInt < 1024 := xI_nle rfl rfl c_107
                refine lv_aload_n hx hb dX12_ways_193 rfl (lv_at hl 2 rfl) ?_
                refine S_getR (n := 101) (C := RX12) (T := TX12) (N := 89) hx hb hg iX12 hown hK hW kd_66 rfl 67 (lt_b rfl) (hg (Cond.fieldLink RX12 124 "SlabWalkModel" "ways" "[J") m1381) (fun _ h9 => h9) rfl dX12_ways_194 ?_
                refine lv_iload hx hb dX12_ways_197 (lv_at hl 0 rfl) ?_
                refine lv_aload_n hx hb dX12_ways_199 rfl (lv_at hl 2 rfl) ?_
                refine S_getR (n := 102) (C := RX12) (T := TX12) (N := 89) hx hb hg iX12 hown hK hW kd_66 rfl 68 (lt_b rfl) (hg (Cond.fieldLink RX12 127 "SlabWalkModel" "next" "[J") m1382) (fun _ h9 => h9) rfl dX12_ways_200 ?_
                refine lv_iload hx hb dX12_ways_203 (lv_at hl 0 rfl) ?_
                refine S_lald hx hb hK hW kd_102 (vin (by omega) (by omega)) dX12_ways_205 (fun y_109 ey_109 => ?_)
                refine S_last hx hb hK hW hS kd_101 (vin (by omega) (by omega)) dX12_ways_206 (fun G_110 H locs eG_110 hW hS => ?_)
                have hB_G_110 : Bd G_110 := hB_G_98.putl eG_110
                have hF := hF.putl eG_110 (Or.inl (by decide))
                obtain ⟨y_111, ey_111⟩ : ∃ q, q = x_102 + 1 := ⟨_, rfl⟩
                have ty_111 : y_111.toInt = x_102.toInt + 1 := xI_add rfl rfl ey_111 (by omega) (by omega)
                refine lv_iinc (v := y_111) (lv' := [(6, .int y_111), (5, .int x_38), (0, .ref (a 66)), (4, .int p3)]) hx hb dX12_ways_207 hl (k := 0) rfl (by rw [ey_111]; rfl) (lt_b rfl) rfl (fun ls hl => ?_)
                refine lv_goto (tgt := 185) hx hb dX12_ways_210 rfl ?_
                exact ih_100 (1024 - y_111.toInt : Int).toNat (by omega) _ _ _ ⟨G_110, y_111, (Int.toNat_of_nonneg (by omega)), ⟨by omega, by omega⟩, (hX_103.st (St_n_ways_6_mk ⟨x_102, G_98, y_111, G_110, rfl, rfl, f_105, hB_G_98, ⟨c_107, ⟨y_109, ey_109, ⟨y_111, ty_111, ⟨rfl, (Fr.putl (rs := [101]) (fs := []) Fr.rf eG_110 (Or.inl (by decide))), rl_ast eG_110⟩⟩⟩⟩⟩)), hW, hB_G_110, hF, (Fr.putl (rs := [101]) (fs := []) (Fr.call9 (rs := [101]) (fs := []) Fr.rf hq_99 rfl rfl) eG_110 (Or.inl (by decide))), hS, lv_sub hl [0, 1, 2, 3] rfl⟩
            · have c_97 : x_92.toInt < 800 := xI_nle rfl rfl c_97
              refine lv_aload_n hx hb dX12_ways_147 rfl (lv_at hl 2 rfl) ?_
              refine S_getR (n := 101) (C := RX12) (T := TX12) (N := 89) hx hb hg iX12 hown hK hW kd_66 rfl 67 (lt_b rfl) (hg (Cond.fieldLink RX12 124 "SlabWalkModel" "ways" "[J") m1381) (fun _ h9 => h9) rfl dX12_ways_148 ?_
              refine lv_iload hx hb dX12_ways_151 (lv_at hl 0 rfl) ?_
              refine S_lald hx hb hK hW kd_101 (vin (by omega) (by omega)) dX12_ways_153 (fun y_112 ey_112 => ?_)
              refine lv_lconst (v := 0) hx hb dX12_ways_154 (by decide) ?_
              refine W.lcmp hx hb dX12_ways_155 ?_
              refine lv_topi (fun y_113 ey_113 => ?_)
              have ty_113 := lcmp_rng ey_113
              refine lv_if_le (tgt := 176) hx hb dX12_ways_156 rfl (fun c_114 => ?_) (fun c_114 => ?_)
              · have c_114 : y_113.toInt ≤ 0 := xI_le rfl rfl c_114
                obtain ⟨y_115, ey_115⟩ : ∃ q, q = x_92 + 1 := ⟨_, rfl⟩
                have ty_115 : y_115.toInt = x_92.toInt + 1 := xI_add rfl rfl ey_115 (by omega) (by omega)
                refine lv_iinc (v := y_115) (lv' := [(6, .int y_115), (5, .int x_38), (0, .ref (a 66)), (4, .int p3)]) hx hb dX12_ways_176 hl (k := 0) rfl (by rw [ey_115]; rfl) (lt_b rfl) rfl (fun ls hl => ?_)
                refine lv_goto (tgt := 139) hx hb dX12_ways_179 rfl ?_
                exact ih_90 (800 - y_115.toInt : Int).toNat (by omega) _ _ _ ⟨G_88, y_115, (Int.toNat_of_nonneg (by omega)), ⟨by omega, by omega⟩, (hX_93.st (St_n_ways_5_mk ⟨x_92, G_88, y_115, G_88, rfl, rfl, f_95, hB_G_88, ⟨c_97, ⟨y_112, ey_112, ⟨y_113, ey_113, (Or.inl ⟨c_114, ⟨y_115, ty_115, ⟨rfl, rfl⟩⟩⟩)⟩⟩⟩⟩)), hW, hB_G_88, hF, (Fr.call9 (rs := [102]) (fs := []) Fr.rf hq_89 rfl rfl), hS, lv_sub hl [0, 1, 2, 3] rfl⟩
              · have c_114 : 0 < y_113.toInt := xI_nle rfl rfl c_114
                refine lv_aload_n hx hb dX12_ways_159 rfl (lv_at hl 2 rfl) ?_
                refine lv_iload hx hb dX12_ways_160 (lv_at hl 0 rfl) ?_
                refine ic_2 hx hb dX12_ways_162 ?_
                refine lv_idiv hx hb dX12_ways_163 (by decide) ?_
                refine lv_topi (fun y_116 ey_116 => ?_)
                have ty_116 : y_116.toInt = x_92.toInt / 2 := xI_div rfl ey_116 (by decide) (by omega)
                have b_117 : 0 ≤ (G_20.1 66 59).toInt ∧ (G_20.1 66 59).toInt ≤ 400 := bd_66_59 hB_G_20
                have g_118 : (G_88.1 66 59).toInt = (G_20.1 66 59).toInt := (congrArg Int32.toInt (show G_88.1 66 59 = (G_20.1 66 59) from ((hq_89.i9 66 59 rfl rfl).trans ((hq_79.i9 66 59 rfl rfl).trans ((hq_35.i9 66 59 rfl rfl).trans (hq_25.i9 66 59 rfl rfl))))))
                have b_119 : 0 ≤ (G_20.1 66 60).toInt ∧ (G_20.1 66 60).toInt ≤ 12 := bd_66_60 hB_G_20
                have g_120 : (G_88.1 66 60).toInt = (G_20.1 66 60).toInt := (congrArg Int32.toInt (show G_88.1 66 60 = (G_20.1 66 60) from ((hq_89.i9 66 60 rfl rfl).trans ((hq_79.i9 66 60 rfl rfl).trans ((hq_35.i9 66 60 rfl rfl).trans (hq_25.i9 66 60 rfl rfl))))))
                have b_121 : 0 ≤ (G_20.1 66 62).toInt ∧ (G_20.1 66 62).toInt ≤ 60 := bd_66_62 hB_G_20
                have g_122 : (G_88.1 66 62).toInt = (G_20.1 66 62).toInt := (congrArg Int32.toInt (show G_88.1 66 62 = (G_20.1 66 62) from ((hq_89.i9 66 62 rfl rfl).trans ((hq_79.i9 66 62 rfl rfl).trans ((hq_35.i9 66 62 rfl rfl).trans (hq_25.i9 66 62 rfl rfl))))))
                refine S_calli (va_runV (As := [.int y_116]) (rest := []) ⟨hx, hb, hml, hown, hts⟩ (n_isEnd l D k A a z G_88 y_116 ⟨by omega, by omega⟩) (cwV 1 hts (gd_V hgd m1854 m1856 m95 m131 m1857) rfl rfl rfl hd_X12_isEnd ⟨Nat.le_of_ble_eq_true rfl, Nat.le_of_ble_eq_true rfl⟩) (pre_V hW hB_G_88 hK hZ hS kd_66 rfl) rfl rfl hl.1 rfl (lv_room (Nat.le_of_ble_eq_true rfl)) dX12_ways_164 ⟨Nat.le_of_ble_eq_true rfl, Nat.le_of_ble_eq_true rfl⟩) hS (fun r_123 G_124 H locs hpo hW hS => ?_)
                have hX_127 : Q_isEnd y_116 G_88 r_123 G_124 := hpo
                obtain ⟨hB_G_124, hq_125, f_128, hp_126, -⟩ := hpo
                have hF := hF.call9 hq_125 rfl rfl
                refine lv_if_ne (tgt := 176) hx hb dX12_ways_167 rfl (fun c_129 => ?_) (fun c_129 => ?_)
                · have c_129 : r_123.toInt ≠ 0 := xI_ne rfl rfl c_129
                  obtain ⟨y_130, ey_130⟩ : ∃ q, q = x_92 + 1 := ⟨_, rfl⟩
                  have ty_130 : y_130.toInt = x_92.toInt + 1 := xI_add rfl rfl ey_130 (by omega) (by omega)
                  refine lv_iinc (v := y_130) (lv' := [(6, .int y_130), (5, .int x_38), (0, .ref (a 66)), (4, .int p3)]) hx hb dX12_ways_176 hl (k := 0) rfl (by rw [ey_130]; rfl) (lt_b rfl) rfl (fun ls hl => ?_)
                  refine lv_goto (tgt := 139) hx hb dX12_ways_179 rfl ?_
                  exact ih_90 (800 - y_130.toInt : Int).toNat (by omega) _ _ _ ⟨G_124, y_130, (Int.toNat_of_nonneg (by omega)), ⟨by omega, by omega⟩, (hX_93.st (St_n_ways_5_mk ⟨x_92, G_88, y_130, G_124, rfl, rfl, f_95, hB_G_88, ⟨c_97, ⟨y_112, ey_112, ⟨y_113, ey_113, (Or.inr ⟨c_114, ⟨y_116, ty_116, ⟨r_123, G_124, hX_127, (Or.inr ⟨c_129, ⟨y_130, ty_130, ⟨rfl, rfl⟩⟩⟩)⟩⟩⟩)⟩⟩⟩⟩)), hW, hB_G_124, hF, (Fr.call9 (rs := [102]) (fs := []) (Fr.call9 (rs := [102]) (fs := []) Fr.rf hq_89 rfl rfl) hq_125 rfl rfl), hS, lv_sub hl [0, 1, 2, 3] rfl⟩
                · have c_129 : r_123.toInt = 0 := xI_eq rfl rfl c_129
                  refine lv_aload_n hx hb dX12_ways_170 rfl (lv_at hl 2 rfl) ?_
                  refine lv_iload hx hb dX12_ways_171 (lv_at hl 0 rfl) ?_
                  refine S_callv (va_runV (As := [.int x_92]) (rest := []) ⟨hx, hb, hml, hown, hts⟩ (n_goOn l D k A a z G_124 x_92 ⟨by omega, by omega⟩) (cwV 1 hts (gd_V hgd m1875 m1877 m98 m131 m1878) rfl rfl rfl hd_X12_goOn ⟨Nat.le_of_ble_eq_true rfl, Nat.le_of_ble_eq_true rfl⟩) (pre_V hW hB_G_124 hK hZ hS kd_66 rfl) rfl rfl hl.1 rfl (lv_room (Nat.le_of_ble_eq_true rfl)) dX12_ways_173 ⟨Nat.le_of_ble_eq_true rfl, Nat.le_of_ble_eq_true rfl⟩) hS (fun G_132 H locs hpo hW hS => ?_)
                  have hX_135 : Q_goOn x_92 G_124 G_132 := hpo
                  obtain ⟨hB_G_132, hq_133, -⟩ := hpo
                  have hF := hF.call9 hq_133 rfl rfl
                  obtain ⟨y_136, ey_136⟩ : ∃ q, q = x_92 + 1 := ⟨_, rfl⟩
                  have ty_136 : y_136.toInt = x_92.toInt + 1 := xI_add rfl rfl ey_136 (by omega) (by omega)
                  refine lv_iinc (v := y_136) (lv' := [(6, .int y_136), (5, .int x_38), (0, .ref (a 66)), (4, .int p3)]) hx hb dX12_ways_176 hl (k := 0) rfl (by rw [ey_136]; rfl) (lt_b rfl) rfl (fun ls hl => ?_)
                  refine lv_goto (tgt := 139) hx hb dX12_ways_179 rfl ?_
                  exact ih_90 (800 - y_136.toInt : Int).toNat (by omega) _ _ _ ⟨G_132, y_136, (Int.toNat_of_nonneg (by omega)), ⟨by omega, by omega⟩, (hX_93.st (St_n_ways_5_mk ⟨x_92, G_88, y_136, G_132, rfl, rfl, f_95, hB_G_88, ⟨c_97, ⟨y_112, ey_112, ⟨y_113, ey_113, (Or.inr ⟨c_114, ⟨y_116, ty_116, ⟨r_123, G_124, hX_127, (Or.inl ⟨c_129, ⟨G_132, hX_135, ⟨y_136, ty_136, ⟨rfl, rfl⟩⟩⟩⟩)⟩⟩⟩)⟩⟩⟩⟩)), hW, hB_G_132, hF, (Fr.call9 (rs := [102]) (fs := []) (Fr.call9 (rs := [102]) (fs := []) (Fr.call9 (rs := [102]) (fs := []) Fr.rf hq_89 rfl rfl) hq_125 rfl rfl) hq_133 rfl rfl), hS, lv_sub hl [0, 1, 2, 3] rfl⟩
          · have c_87 : x_82.toInt < 1024 := xI_nle rfl rfl c_87
            refine lv_aload_n hx hb dX12_ways_122 rfl (lv_at hl 2 rfl) ?_
            refine S_getR (n := 102) (C := RX12) (T := TX12) (N := 89) hx hb hg iX12 hown hK hW kd_66 rfl 68 (lt_b rfl) (hg (Cond.fieldLink RX12 127 "SlabWalkModel" "next" "[J") m1382) (fun _ h9 => h9) rfl dX12_ways_123 ?_
            refine lv_iload hx hb dX12_ways_126 (lv_at hl 0 rfl) ?_
            refine lv_lconst (v := 0) hx hb dX12_ways_128 (by decide) ?_
            refine S_last hx hb hK hW hS kd_102 (vin (by omega) (by omega)) dX12_ways_129 (fun G_137 H locs eG_137 hW hS => ?_)
            have hB_G_137 : Bd G_137 := hB_G_78.putl eG_137
            have hF := hF.putl eG_137 (Or.inl (by decide))
            obtain ⟨y_138, ey_138⟩ : ∃ q, q = x_82 + 1 := ⟨_, rfl⟩
            have ty_138 : y_138.toInt = x_82.toInt + 1 := xI_add rfl rfl ey_138 (by omega) (by omega)
            refine lv_iinc (v := y_138) (lv' := [(6, .int y_138), (5, .int x_38), (0, .ref (a 66)), (4, .int p3)]) hx hb dX12_ways_130 hl (k := 0) rfl (by rw [ey_138]; rfl) (lt_b rfl) rfl (fun ls hl => ?_)
            refine lv_goto (tgt := 114) hx hb dX12_ways_133 rfl ?_
            exact ih_80 (1024 - y_138.toInt : Int).toNat (by omega) _ _ _ ⟨G_137, y_138, (Int.toNat_of_nonneg (by omega)), ⟨by omega, by omega⟩, (hX_83.st (St_n_ways_4_mk ⟨x_82, G_78, y_138, G_137, rfl, rfl, f_85, hB_G_78, ⟨c_87, ⟨y_138, ty_138, ⟨rfl, (Fr.putl (rs := [102]) (fs := []) Fr.rf eG_137 (Or.inl (by decide))), rl_ast eG_137⟩⟩⟩⟩)), hW, hB_G_137, hF, (Fr.putl (rs := [102]) (fs := []) (Fr.call9 (rs := [102]) (fs := []) Fr.rf hq_79 rfl rfl) eG_137 (Or.inl (by decide))), hS, lv_sub hl [0, 1, 2, 3] rfl⟩
      · have c_33 : x_28.toInt < 1024 := xI_nle rfl rfl c_33
        refine lv_aload_n hx hb dX12_ways_43 rfl (lv_at hl 1 rfl) ?_
        refine S_getR (n := 101) (C := RX12) (T := TX12) (N := 89) hx hb hg iX12 hown hK hW kd_66 rfl 67 (lt_b rfl) (hg (Cond.fieldLink RX12 124 "SlabWalkModel" "ways" "[J") m1381) (fun _ h9 => h9) rfl dX12_ways_44 ?_
        refine lv_iload hx hb dX12_ways_47 (lv_at hl 0 rfl) ?_
        refine lv_iload hx hb dX12_ways_49 (lv_at hl 0 rfl) ?_
        refine ic_2 hx hb dX12_ways_51 ?_
        refine lv_irem hx hb dX12_ways_52 (by decide) ?_
        refine lv_topi (fun y_139 ey_139 => ?_)
        have ty_139 : y_139.toInt = x_28.toInt % 2 := xI_mod rfl ey_139 (by decide) (by omega)
        refine lv_if_ne (tgt := 93) hx hb dX12_ways_53 rfl (fun c_140 => ?_) (fun c_140 => ?_)
        · have c_140 : y_139.toInt ≠ 0 := xI_ne rfl rfl c_140
          refine lv_lconst (v := 0) hx hb dX12_ways_93 (by decide) ?_
          refine S_last hx hb hK hW hS kd_101 (vin (by omega) (by omega)) dX12_ways_94 (fun G_141 H locs eG_141 hW hS => ?_)
          have hB_G_141 : Bd G_141 := hB_G_24.putl eG_141
          have hF := hF.putl eG_141 (Or.inl (by decide))
          obtain ⟨y_142, ey_142⟩ : ∃ q, q = x_28 + 1 := ⟨_, rfl⟩
          have ty_142 : y_142.toInt = x_28.toInt + 1 := xI_add rfl rfl ey_142 (by omega) (by omega)
          refine lv_iinc (v := y_142) (lv' := [(5, .int y_142), (0, .ref (a 66)), (4, .int p3)]) hx hb dX12_ways_95 hl (k := 0) rfl (by rw [ey_142]; rfl) (lt_b rfl) rfl (fun ls hl => ?_)
          refine lv_goto (tgt := 35) hx hb dX12_ways_98 rfl ?_
          exact ih_26 (1024 - y_142.toInt : Int).toNat (by omega) _ _ _ ⟨G_141, y_142, (Int.toNat_of_nonneg (by omega)), ⟨by omega, by omega⟩, (hX_29.st (St_n_ways_1_mk ⟨x_28, G_24, y_142, G_141, rfl, rfl, f_31, hB_G_24, ⟨c_33, ⟨y_139, ty_139, (Or.inr ⟨c_140, ⟨y_142, ty_142, ⟨rfl, (Fr.putl (rs := [101]) (fs := []) Fr.rf eG_141 (Or.inl (by decide))), rl_ast eG_141⟩⟩⟩)⟩⟩⟩)), hW, hB_G_141, hF, (Fr.putl (rs := [101]) (fs := []) (Fr.call9 (rs := [101]) (fs := []) Fr.rf hq_25 rfl rfl) eG_141 (Or.inl (by decide))), hS, lv_sub hl [0, 1, 2] rfl⟩
        · have c_140 : y_139.toInt = 0 := xI_eq rfl rfl c_140
          refine lv_iload hx hb dX12_ways_56 (lv_at hl 0 rfl) ?_
          refine ic_2 hx hb dX12_ways_58 ?_
          refine lv_idiv hx hb dX12_ways_59 (by decide) ?_
          refine lv_topi (fun y_143 ey_143 => ?_)
          have ty_143 : y_143.toInt = x_28.toInt / 2 := xI_div rfl ey_143 (by decide) (by omega)
          refine lv_aload_n hx hb dX12_ways_60 rfl (lv_at hl 1 rfl) ?_
          have b_144 : 0 ≤ (G_20.1 66 62).toInt ∧ (G_20.1 66 62).toInt ≤ 60 := bd_66_62 hB_G_20
          refine S_getI (v := (G_20.1 66 62)) (C := RX12) (T := TX12) (N := 89) hx hb hg iX12 hown hK hW kd_66 rfl 62 (lt_b rfl) (hg (Cond.fieldLink RX12 478 "SlabWalkModel" "most" "I") m1376) (fun _ h9 => h9) rfl (hq_25.i9 66 62 rfl rfl) dX12_ways_61 ?_
          refine lv_icmp_ge (tgt := 93) hx hb dX12_ways_64 rfl (fun c_145 => ?_) (fun c_145 => ?_)
          · have c_145 : (G_20.1 66 62).toInt ≤ y_143.toInt := xI_le rfl rfl c_145
            refine lv_lconst (v := 0) hx hb dX12_ways_93 (by decide) ?_
            refine S_last hx hb hK hW hS kd_101 (vin (by omega) (by omega)) dX12_ways_94 (fun G_146 H locs eG_146 hW hS => ?_)
            have hB_G_146 : Bd G_146 := hB_G_24.putl eG_146
            have hF := hF.putl eG_146 (Or.inl (by decide))
            obtain ⟨y_147, ey_147⟩ : ∃ q, q = x_28 + 1 := ⟨_, rfl⟩
            have ty_147 : y_147.toInt = x_28.toInt + 1 := xI_add rfl rfl ey_147 (by omega) (by omega)
            refine lv_iinc (v := y_147) (lv' := [(5, .int y_147), (0, .ref (a 66)), (4, .int p3)]) hx hb dX12_ways_95 hl (k := 0) rfl (by rw [ey_147]; rfl) (lt_b rfl) rfl (fun ls hl => ?_)
            refine lv_goto (tgt := 35) hx hb dX12_ways_98 rfl ?_
            exact ih_26 (1024 - y_147.toInt : Int).toNat (by omega) _ _ _ ⟨G_146, y_147, (Int.toNat_of_nonneg (by omega)), ⟨by omega, by omega⟩, (hX_29.st (St_n_ways_1_mk ⟨x_28, G_24, y_147, G_146, rfl, rfl, f_31, hB_G_24, ⟨c_33, ⟨y_139, ty_139, (Or.inl ⟨c_140, ⟨y_143, ty_143, (Or.inl ⟨c_145, ⟨y_147, ty_147, ⟨rfl, (Fr.putl (rs := [101]) (fs := []) Fr.rf eG_146 (Or.inl (by decide))), rl_ast eG_146⟩⟩⟩)⟩⟩)⟩⟩⟩)), hW, hB_G_146, hF, (Fr.putl (rs := [101]) (fs := []) (Fr.call9 (rs := [101]) (fs := []) Fr.rf hq_25 rfl rfl) eG_146 (Or.inl (by decide))), hS, lv_sub hl [0, 1, 2] rfl⟩
          · have c_145 : y_143.toInt < (G_20.1 66 62).toInt := xI_nle rfl rfl c_145
            refine lv_iload hx hb dX12_ways_67 (lv_at hl 0 rfl) ?_
            refine ic_2 hx hb dX12_ways_69 ?_
            refine lv_idiv hx hb dX12_ways_70 (by decide) ?_
            refine lv_topi (fun y_148 ey_148 => ?_)
            have ty_148 : y_148.toInt = x_28.toInt / 2 := xI_div rfl ey_148 (by decide) (by omega)
            refine lv_sipush (v := 400) hx hb dX12_ways_71 (by decide) ?_
            refine lv_icmp_ge (tgt := 93) hx hb dX12_ways_74 rfl (fun c_149 => ?_) (fun c_149 => ?_)
            · have c_149 : 400 ≤ y_148.toInt := xI_le rfl rfl c_149
              refine lv_lconst (v := 0) hx hb dX12_ways_93 (by decide) ?_
              refine S_last hx hb hK hW hS kd_101 (vin (by omega) (by omega)) dX12_ways_94 (fun G_150 H locs eG_150 hW hS => ?_)
              have hB_G_150 : Bd G_150 := hB_G_24.putl eG_150
              have hF := hF.putl eG_150 (Or.inl (by decide))
              obtain ⟨y_151, ey_151⟩ : ∃ q, q = x_28 + 1 := ⟨_, rfl⟩
              have ty_151 : y_151.toInt = x_28.toInt + 1 := xI_add rfl rfl ey_151 (by omega) (by omega)
              refine lv_iinc (v := y_151) (lv' := [(5, .int y_151), (0, .ref (a 66)), (4, .int p3)]) hx hb dX12_ways_95 hl (k := 0) rfl (by rw [ey_151]; rfl) (lt_b rfl) rfl (fun ls hl => ?_)
              refine lv_goto (tgt := 35) hx hb dX12_ways_98 rfl ?_
              exact ih_26 (1024 - y_151.toInt : Int).toNat (by omega) _ _ _ ⟨G_150, y_151, (Int.toNat_of_nonneg (by omega)), ⟨by omega, by omega⟩, (hX_29.st (St_n_ways_1_mk ⟨x_28, G_24, y_151, G_150, rfl, rfl, f_31, hB_G_24, ⟨c_33, ⟨y_139, ty_139, (Or.inl ⟨c_140, ⟨y_143, ty_143, (Or.inr ⟨c_145, ⟨y_148, ty_148, (Or.inl ⟨c_149, ⟨y_151, ty_151, ⟨rfl, (Fr.putl (rs := [101]) (fs := []) Fr.rf eG_150 (Or.inl (by decide))), rl_ast eG_150⟩⟩⟩)⟩⟩)⟩⟩)⟩⟩⟩)), hW, hB_G_150, hF, (Fr.putl (rs := [101]) (fs := []) (Fr.call9 (rs := [101]) (fs := []) Fr.rf hq_25 rfl rfl) eG_150 (Or.inl (by decide))), hS, lv_sub hl [0, 1, 2] rfl⟩
            · have c_149 : y_148.toInt < 400 := xI_nle rfl rfl c_149
              refine lv_aload_n hx hb dX12_ways_77 rfl (lv_at hl 1 rfl) ?_
              refine S_getR (n := 98) (C := RX12) (T := TX12) (N := 89) hx hb hg iX12 hown hK hW kd_66 rfl 58 (lt_b rfl) (hg (Cond.fieldLink RX12 115 "SlabWalkModel" "lawful" "[Z") m1372) (fun _ h9 => h9) rfl dX12_ways_78 ?_
              refine lv_iload hx hb dX12_ways_81 (lv_at hl 0 rfl) ?_
              refine ic_2 hx hb dX12_ways_83 ?_
              refine lv_idiv hx hb dX12_ways_84 (by decide) ?_
              refine lv_topi (fun y_152 ey_152 => ?_)
              have ty_152 : y_152.toInt = x_28.toInt / 2 := xI_div rfl ey_152 (by decide) (by omega)
              refine S_zald hx hb hK hW kd_98 (vin (by omega) (by omega)) dX12_ways_85 (fun y_153 ey_153 => ?_)
              have ty_153 := hB_G_24.law ey_153
              refine lv_if_eq (tgt := 93) hx hb dX12_ways_86 rfl (fun c_154 => ?_) (fun c_154 => ?_)
              · have c_154 : y_153.toInt = 0 := xI_eq rfl rfl c_154
                refine lv_lconst (v := 0) hx hb dX12_ways_93 (by decide) ?_
                refine S_last hx hb hK hW hS kd_101 (vin (by omega) (by omega)) dX12_ways_94 (fun G_155 H locs eG_155 hW hS => ?_)
                have hB_G_155 : Bd G_155 := hB_G_24.putl eG_155
                have hF := hF.putl eG_155 (Or.inl (by decide))
                obtain ⟨y_156, ey_156⟩ : ∃ q, q = x_28 + 1 := ⟨_, rfl⟩
                have ty_156 : y_156.toInt = x_28.toInt + 1 := xI_add rfl rfl ey_156 (by omega) (by omega)
                refine lv_iinc (v := y_156) (lv' := [(5, .int y_156), (0, .ref (a 66)), (4, .int p3)]) hx hb dX12_ways_95 hl (k := 0) rfl (by rw [ey_156]; rfl) (lt_b rfl) rfl (fun ls hl => ?_)
                refine lv_goto (tgt := 35) hx hb dX12_ways_98 rfl ?_
                exact ih_26 (1024 - y_156.toInt : Int).toNat (by omega) _ _ _ ⟨G_155, y_156, (Int.toNat_of_nonneg (by omega)), ⟨by omega, by omega⟩, (hX_29.st (St_n_ways_1_mk ⟨x_28, G_24, y_156, G_155, rfl, rfl, f_31, hB_G_24, ⟨c_33, ⟨y_139, ty_139, (Or.inl ⟨c_140, ⟨y_143, ty_143, (Or.inr ⟨c_145, ⟨y_148, ty_148, (Or.inr ⟨c_149, ⟨y_152, ty_152, ⟨y_153, ey_153, (Or.inl ⟨c_154, ⟨y_156, ty_156, ⟨rfl, (Fr.putl (rs := [101]) (fs := []) Fr.rf eG_155 (Or.inl (by decide))), rl_ast eG_155⟩⟩⟩)⟩⟩⟩)⟩⟩)⟩⟩)⟩⟩⟩)), hW, hB_G_155, hF, (Fr.putl (rs := [101]) (fs := []) (Fr.call9 (rs := [101]) (fs := []) Fr.rf hq_25 rfl rfl) eG_155 (Or.inl (by decide))), hS, lv_sub hl [0, 1, 2] rfl⟩
              · have c_154 : y_153.toInt ≠ 0 := xI_ne rfl rfl c_154
                refine lv_lconst (v := 1) hx hb dX12_ways_89 (by decide) ?_
                refine lv_goto (tgt := 94) hx hb dX12_ways_90 rfl ?_
                refine S_last hx hb hK hW hS kd_101 (vin (by omega) (by omega)) dX12_ways_94 (fun G_157 H locs eG_157 hW hS => ?_)
                have hB_G_157 : Bd G_157 := hB_G_24.putl eG_157
                have hF := hF.putl eG_157 (Or.inl (by decide))
                obtain ⟨y_158, ey_158⟩ : ∃ q, q = x_28 + 1 := ⟨_, rfl⟩
                have ty_158 : y_158.toInt = x_28.toInt + 1 := xI_add rfl rfl ey_158 (by omega) (by omega)
                refine lv_iinc (v := y_158) (lv' := [(5, .int y_158), (0, .ref (a 66)), (4, .int p3)]) hx hb dX12_ways_95 hl (k := 0) rfl (by rw [ey_158]; rfl) (lt_b rfl) rfl (fun ls hl => ?_)
                refine lv_goto (tgt := 35) hx hb dX12_ways_98 rfl ?_
                exact ih_26 (1024 - y_158.toInt : Int).toNat (by omega) _ _ _ ⟨G_157, y_158, (Int.toNat_of_nonneg (by omega)), ⟨by omega, by omega⟩, (hX_29.st (St_n_ways_1_mk ⟨x_28, G_24, y_158, G_157, rfl, rfl, f_31, hB_G_24, ⟨c_33, ⟨y_139, ty_139, (Or.inl ⟨c_140, ⟨y_143, ty_143, (Or.inr ⟨c_145, ⟨y_148, ty_148, (Or.inr ⟨c_149, ⟨y_152, ty_152, ⟨y_153, ey_153, (Or.inr ⟨c_154, ⟨y_158, ty_158, ⟨rfl, (Fr.putl (rs := [101]) (fs := []) Fr.rf eG_157 (Or.inl (by decide))), rl_ast eG_157⟩⟩⟩)⟩⟩⟩)⟩⟩)⟩⟩)⟩⟩⟩)), hW, hB_G_157, hF, (Fr.putl (rs := [101]) (fs := []) (Fr.call9 (rs := [101]) (fs := []) Fr.rf hq_25 rfl rfl) eG_157 (Or.inl (by decide))), hS, lv_sub hl [0, 1, 2] rfl⟩
    · have c_16 : r_10.toInt = 0 := xI_eq rfl rfl c_16
      refine lv_ldc2 (v := (-1)) hx hb hown (hg (Cond.constantLong RX12 517 (-1)) m1874) dX12_ways_21 ?_
      exact W.lret (v := (-1)) hx hb hr (fun t ht _ => ⟨⟨(-1), G_11, rfl, (Q_ways_mk ⟨hB_G_11, hF, ⟨r_1, G_2, hX_5, (Or.inr ⟨c_7, ⟨r_10, G_11, hX_14, (Or.inl ⟨c_16, ⟨rfl, rfl⟩⟩)⟩⟩)⟩⟩), wd_t ht hW⟩, hS.F ht⟩) hS.2.2 dX12_ways_24
