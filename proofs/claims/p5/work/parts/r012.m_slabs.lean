theorem m1874 : Cond.constantLong RX12 517 (-1) ∈ gd := gd_mem 1874 (by decide +kernel) (by decide +kernel)
theorem m1907 : Cond.methodLink RX12 536 yX12_areSlabs ∈ gd := gd_mem 1907 (by decide +kernel) (by decide +kernel)
theorem m1908 : Cond.static yX12_areSlabs ∈ gd := gd_mem 1908 (by decide +kernel) (by decide +kernel)
theorem m1909 : Cond.code yX12_areSlabs cX12_areSlabs 3 (some .boolean) ∈ gd := gd_mem 1909 (by decide +kernel) (by decide +kernel)
theorem m1910 : Cond.methodLink RX12 539 yX12_firstOf ∈ gd := gd_mem 1910 (by decide +kernel) (by decide +kernel)
theorem m1911 : Cond.static yX12_firstOf ∈ gd := gd_mem 1911 (by decide +kernel) (by decide +kernel)
theorem m1912 : Cond.code yX12_firstOf cX12_firstOf 7 (some .int) ∈ gd := gd_mem 1912 (by decide +kernel) (by decide +kernel)
theorem m1913 : Cond.methodLink RX12 532 yX12_isPlain ∈ gd := gd_mem 1913 (by decide +kernel) (by decide +kernel)
theorem m1914 : Cond.static yX12_isPlain ∈ gd := gd_mem 1914 (by decide +kernel) (by decide +kernel)
theorem m1915 : Cond.code yX12_isPlain cX12_isPlain 6 (some .boolean) ∈ gd := gd_mem 1915 (by decide +kernel) (by decide +kernel)
theorem m1920 : Cond.methodLink RX12 543 yX12_beginOf ∈ gd := gd_mem 1920 (by decide +kernel) (by decide +kernel)
theorem m1921 : Cond.static yX12_beginOf ∈ gd := gd_mem 1921 (by decide +kernel) (by decide +kernel)
theorem m1922 : Cond.code yX12_beginOf cX12_beginOf 6 (some .int) ∈ gd := gd_mem 1922 (by decide +kernel) (by decide +kernel)
theorem dX12_areSlabs_0 : decode cX12_areSlabs 0 = .ok (.iload_n 0, 1) := by decide +kernel
theorem dX12_areSlabs_1 : decode cX12_areSlabs 1 = .ok (.iconst 1, 1) := by decide +kernel
theorem dX12_areSlabs_2 : decode cX12_areSlabs 2 = .ok (.bipush 60, 2) := by decide +kernel
theorem dX12_areSlabs_4 : decode cX12_areSlabs 4 = .ok (.invokestatic 449, 3) := by decide +kernel
theorem dX12_areSlabs_7 : decode cX12_areSlabs 7 = .ok (.ifCond .eq 27, 3) := by decide +kernel
theorem dX12_areSlabs_10 : decode cX12_areSlabs 10 = .ok (.iload_n 1, 1) := by decide +kernel
theorem dX12_areSlabs_11 : decode cX12_areSlabs 11 = .ok (.iconst 0, 1) := by decide +kernel
theorem dX12_areSlabs_12 : decode cX12_areSlabs 12 = .ok (.bipush 9, 2) := by decide +kernel
theorem dX12_areSlabs_14 : decode cX12_areSlabs 14 = .ok (.invokestatic 449, 3) := by decide +kernel
theorem dX12_areSlabs_17 : decode cX12_areSlabs 17 = .ok (.ifCond .eq 17, 3) := by decide +kernel
theorem dX12_areSlabs_20 : decode cX12_areSlabs 20 = .ok (.iload_n 2, 1) := by decide +kernel
theorem dX12_areSlabs_21 : decode cX12_areSlabs 21 = .ok (.iconst 1, 1) := by decide +kernel
theorem dX12_areSlabs_22 : decode cX12_areSlabs 22 = .ok (.bipush 12, 2) := by decide +kernel
theorem dX12_areSlabs_24 : decode cX12_areSlabs 24 = .ok (.invokestatic 449, 3) := by decide +kernel
theorem dX12_areSlabs_27 : decode cX12_areSlabs 27 = .ok (.ifCond .eq 7, 3) := by decide +kernel
theorem dX12_areSlabs_30 : decode cX12_areSlabs 30 = .ok (.iconst 1, 1) := by decide +kernel
theorem dX12_areSlabs_31 : decode cX12_areSlabs 31 = .ok (.goto 4, 3) := by decide +kernel
theorem dX12_areSlabs_34 : decode cX12_areSlabs 34 = .ok (.iconst 0, 1) := by decide +kernel
theorem dX12_areSlabs_35 : decode cX12_areSlabs 35 = .ok (.ireturn, 1) := by decide +kernel
theorem dX12_begin_0 : decode cX12_begin 0 = .ok (.iload_n 1, 1) := by decide +kernel
theorem dX12_begin_1 : decode cX12_begin 1 = .ok (.iload_n 2, 1) := by decide +kernel
theorem dX12_begin_2 : decode cX12_begin 2 = .ok (.iload_n 3, 1) := by decide +kernel
theorem dX12_begin_3 : decode cX12_begin 3 = .ok (.invokestatic 536, 3) := by decide +kernel
theorem dX12_begin_6 : decode cX12_begin 6 = .ok (.ifCond .eq 25, 3) := by decide +kernel
theorem dX12_begin_9 : decode cX12_begin 9 = .ok (.iload 4, 2) := by decide +kernel
theorem dX12_begin_11 : decode cX12_begin 11 = .ok (.iconst 1, 1) := by decide +kernel
theorem dX12_begin_12 : decode cX12_begin 12 = .ok (.bipush 99, 2) := by decide +kernel
theorem dX12_begin_14 : decode cX12_begin 14 = .ok (.invokestatic 449, 3) := by decide +kernel
theorem dX12_begin_17 : decode cX12_begin 17 = .ok (.ifCond .eq 14, 3) := by decide +kernel
theorem dX12_begin_20 : decode cX12_begin 20 = .ok (.iload_n 1, 1) := by decide +kernel
theorem dX12_begin_21 : decode cX12_begin 21 = .ok (.iload_n 2, 1) := by decide +kernel
theorem dX12_begin_22 : decode cX12_begin 22 = .ok (.iload_n 3, 1) := by decide +kernel
theorem dX12_begin_23 : decode cX12_begin 23 = .ok (.iload 4, 2) := by decide +kernel
theorem dX12_begin_25 : decode cX12_begin 25 = .ok (.invokestatic 543, 3) := by decide +kernel
theorem dX12_begin_28 : decode cX12_begin 28 = .ok (.goto 4, 3) := by decide +kernel
theorem dX12_begin_31 : decode cX12_begin 31 = .ok (.iconst (-1), 1) := by decide +kernel
theorem dX12_begin_32 : decode cX12_begin 32 = .ok (.ireturn, 1) := by decide +kernel
theorem dX12_beginOf_0 : decode cX12_beginOf 0 = .ok (.iconst 0, 1) := by decide +kernel
theorem dX12_beginOf_1 : decode cX12_beginOf 1 = .ok (.istore 4, 2) := by decide +kernel
theorem dX12_beginOf_3 : decode cX12_beginOf 3 = .ok (.iconst 0, 1) := by decide +kernel
theorem dX12_beginOf_4 : decode cX12_beginOf 4 = .ok (.istore 5, 2) := by decide +kernel
theorem dX12_beginOf_6 : decode cX12_beginOf 6 = .ok (.iload 5, 2) := by decide +kernel
theorem dX12_beginOf_8 : decode cX12_beginOf 8 = .ok (.iload_n 0, 1) := by decide +kernel
theorem dX12_beginOf_9 : decode cX12_beginOf 9 = .ok (.iload_n 1, 1) := by decide +kernel
theorem dX12_beginOf_10 : decode cX12_beginOf 10 = .ok (.iadd, 1) := by decide +kernel
theorem dX12_beginOf_11 : decode cX12_beginOf 11 = .ok (.if_icmp .ge 34, 3) := by decide +kernel
theorem dX12_beginOf_14 : decode cX12_beginOf 14 = .ok (.iload 4, 2) := by decide +kernel
theorem dX12_beginOf_16 : decode cX12_beginOf 16 = .ok (.iload_n 0, 1) := by decide +kernel
theorem dX12_beginOf_17 : decode cX12_beginOf 17 = .ok (.iload_n 1, 1) := by decide +kernel
theorem dX12_beginOf_18 : decode cX12_beginOf 18 = .ok (.iload_n 2, 1) := by decide +kernel
theorem dX12_beginOf_19 : decode cX12_beginOf 19 = .ok (.iload_n 3, 1) := by decide +kernel
theorem dX12_beginOf_20 : decode cX12_beginOf 20 = .ok (.iload 5, 2) := by decide +kernel
theorem dX12_beginOf_22 : decode cX12_beginOf 22 = .ok (.invokestatic 539, 3) := by decide +kernel
theorem dX12_beginOf_25 : decode cX12_beginOf 25 = .ok (.ifCond .ge 7, 3) := by decide +kernel
theorem dX12_beginOf_28 : decode cX12_beginOf 28 = .ok (.iconst 1, 1) := by decide +kernel
theorem dX12_beginOf_29 : decode cX12_beginOf 29 = .ok (.goto 4, 3) := by decide +kernel
theorem dX12_beginOf_32 : decode cX12_beginOf 32 = .ok (.iconst 0, 1) := by decide +kernel
theorem dX12_beginOf_33 : decode cX12_beginOf 33 = .ok (.invokestatic 348, 3) := by decide +kernel
theorem dX12_beginOf_36 : decode cX12_beginOf 36 = .ok (.iadd, 1) := by decide +kernel
theorem dX12_beginOf_37 : decode cX12_beginOf 37 = .ok (.istore 4, 2) := by decide +kernel
theorem dX12_beginOf_39 : decode cX12_beginOf 39 = .ok (.iinc 5 1, 3) := by decide +kernel
theorem dX12_beginOf_42 : decode cX12_beginOf 42 = .ok (.goto (-36), 3) := by decide +kernel
theorem dX12_beginOf_45 : decode cX12_beginOf 45 = .ok (.iload 4, 2) := by decide +kernel
theorem dX12_beginOf_47 : decode cX12_beginOf 47 = .ok (.ireturn, 1) := by decide +kernel
theorem dX12_first_0 : decode cX12_first 0 = .ok (.iload_n 1, 1) := by decide +kernel
theorem dX12_first_1 : decode cX12_first 1 = .ok (.iload_n 2, 1) := by decide +kernel
theorem dX12_first_2 : decode cX12_first 2 = .ok (.iload_n 3, 1) := by decide +kernel
theorem dX12_first_3 : decode cX12_first 3 = .ok (.invokestatic 536, 3) := by decide +kernel
theorem dX12_first_6 : decode cX12_first 6 = .ok (.ifCond .eq 41, 3) := by decide +kernel
theorem dX12_first_9 : decode cX12_first 9 = .ok (.iload 4, 2) := by decide +kernel
theorem dX12_first_11 : decode cX12_first 11 = .ok (.iconst 1, 1) := by decide +kernel
theorem dX12_first_12 : decode cX12_first 12 = .ok (.bipush 99, 2) := by decide +kernel
theorem dX12_first_14 : decode cX12_first 14 = .ok (.invokestatic 449, 3) := by decide +kernel
theorem dX12_first_17 : decode cX12_first 17 = .ok (.ifCond .eq 30, 3) := by decide +kernel
theorem dX12_first_20 : decode cX12_first 20 = .ok (.iload 5, 2) := by decide +kernel
theorem dX12_first_22 : decode cX12_first 22 = .ok (.iconst 0, 1) := by decide +kernel
theorem dX12_first_23 : decode cX12_first 23 = .ok (.iload_n 1, 1) := by decide +kernel
theorem dX12_first_24 : decode cX12_first 24 = .ok (.iload_n 2, 1) := by decide +kernel
theorem dX12_first_25 : decode cX12_first 25 = .ok (.iadd, 1) := by decide +kernel
theorem dX12_first_26 : decode cX12_first 26 = .ok (.iconst 1, 1) := by decide +kernel
theorem dX12_first_27 : decode cX12_first 27 = .ok (.isub, 1) := by decide +kernel
theorem dX12_first_28 : decode cX12_first 28 = .ok (.invokestatic 449, 3) := by decide +kernel
theorem dX12_first_31 : decode cX12_first 31 = .ok (.ifCond .eq 16, 3) := by decide +kernel
theorem dX12_first_34 : decode cX12_first 34 = .ok (.iload_n 1, 1) := by decide +kernel
theorem dX12_first_35 : decode cX12_first 35 = .ok (.iload_n 2, 1) := by decide +kernel
theorem dX12_first_36 : decode cX12_first 36 = .ok (.iload_n 3, 1) := by decide +kernel
theorem dX12_first_37 : decode cX12_first 37 = .ok (.iload 4, 2) := by decide +kernel
theorem dX12_first_39 : decode cX12_first 39 = .ok (.iload 5, 2) := by decide +kernel
theorem dX12_first_41 : decode cX12_first 41 = .ok (.invokestatic 539, 3) := by decide +kernel
theorem dX12_first_44 : decode cX12_first 44 = .ok (.goto 5, 3) := by decide +kernel
theorem dX12_first_47 : decode cX12_first 47 = .ok (.bipush (-2), 2) := by decide +kernel
theorem dX12_first_49 : decode cX12_first 49 = .ok (.ireturn, 1) := by decide +kernel
theorem dX12_firstOf_0 : decode cX12_firstOf 0 = .ok (.iload 4, 2) := by decide +kernel
theorem dX12_firstOf_2 : decode cX12_firstOf 2 = .ok (.istore 5, 2) := by decide +kernel
theorem dX12_firstOf_4 : decode cX12_firstOf 4 = .ok (.iconst 0, 1) := by decide +kernel
theorem dX12_firstOf_5 : decode cX12_firstOf 5 = .ok (.istore 6, 2) := by decide +kernel
theorem dX12_firstOf_7 : decode cX12_firstOf 7 = .ok (.iload 6, 2) := by decide +kernel
theorem dX12_firstOf_9 : decode cX12_firstOf 9 = .ok (.iload_n 0, 1) := by decide +kernel
theorem dX12_firstOf_10 : decode cX12_firstOf 10 = .ok (.iload_n 1, 1) := by decide +kernel
theorem dX12_firstOf_11 : decode cX12_firstOf 11 = .ok (.iadd, 1) := by decide +kernel
theorem dX12_firstOf_12 : decode cX12_firstOf 12 = .ok (.if_icmp .gt 33, 3) := by decide +kernel
theorem dX12_firstOf_15 : decode cX12_firstOf 15 = .ok (.iload_n 0, 1) := by decide +kernel
theorem dX12_firstOf_16 : decode cX12_firstOf 16 = .ok (.iload_n 1, 1) := by decide +kernel
theorem dX12_firstOf_17 : decode cX12_firstOf 17 = .ok (.iload_n 2, 1) := by decide +kernel
theorem dX12_firstOf_18 : decode cX12_firstOf 18 = .ok (.iload 5, 2) := by decide +kernel
theorem dX12_firstOf_20 : decode cX12_firstOf 20 = .ok (.invokestatic 532, 3) := by decide +kernel
theorem dX12_firstOf_23 : decode cX12_firstOf 23 = .ok (.ifCond .ne 6, 3) := by decide +kernel
theorem dX12_firstOf_26 : decode cX12_firstOf 26 = .ok (.iload 6, 2) := by decide +kernel
theorem dX12_firstOf_28 : decode cX12_firstOf 28 = .ok (.ireturn, 1) := by decide +kernel
theorem dX12_firstOf_29 : decode cX12_firstOf 29 = .ok (.iload 5, 2) := by decide +kernel
theorem dX12_firstOf_31 : decode cX12_firstOf 31 = .ok (.iload_n 3, 1) := by decide +kernel
theorem dX12_firstOf_32 : decode cX12_firstOf 32 = .ok (.iadd, 1) := by decide +kernel
theorem dX12_firstOf_33 : decode cX12_firstOf 33 = .ok (.iload_n 0, 1) := by decide +kernel
theorem dX12_firstOf_34 : decode cX12_firstOf 34 = .ok (.iload_n 1, 1) := by decide +kernel
theorem dX12_firstOf_35 : decode cX12_firstOf 35 = .ok (.iadd, 1) := by decide +kernel
theorem dX12_firstOf_36 : decode cX12_firstOf 36 = .ok (.irem, 1) := by decide +kernel
theorem dX12_firstOf_37 : decode cX12_firstOf 37 = .ok (.istore 5, 2) := by decide +kernel
theorem dX12_firstOf_39 : decode cX12_firstOf 39 = .ok (.iinc 6 1, 3) := by decide +kernel
theorem dX12_firstOf_42 : decode cX12_firstOf 42 = .ok (.goto (-35), 3) := by decide +kernel
theorem dX12_firstOf_45 : decode cX12_firstOf 45 = .ok (.iconst (-1), 1) := by decide +kernel
theorem dX12_firstOf_46 : decode cX12_firstOf 46 = .ok (.ireturn, 1) := by decide +kernel
theorem dX12_isPlain_0 : decode cX12_isPlain 0 = .ok (.iconst 1, 1) := by decide +kernel
theorem dX12_isPlain_1 : decode cX12_isPlain 1 = .ok (.istore 4, 2) := by decide +kernel
theorem dX12_isPlain_3 : decode cX12_isPlain 3 = .ok (.iload_n 3, 1) := by decide +kernel
theorem dX12_isPlain_4 : decode cX12_isPlain 4 = .ok (.istore 5, 2) := by decide +kernel
theorem dX12_isPlain_6 : decode cX12_isPlain 6 = .ok (.iload 5, 2) := by decide +kernel
theorem dX12_isPlain_8 : decode cX12_isPlain 8 = .ok (.iload_n 3, 1) := by decide +kernel
theorem dX12_isPlain_9 : decode cX12_isPlain 9 = .ok (.iload_n 2, 1) := by decide +kernel
theorem dX12_isPlain_10 : decode cX12_isPlain 10 = .ok (.iadd, 1) := by decide +kernel
theorem dX12_isPlain_11 : decode cX12_isPlain 11 = .ok (.if_icmp .ge 31, 3) := by decide +kernel
theorem dX12_isPlain_14 : decode cX12_isPlain 14 = .ok (.iload 4, 2) := by decide +kernel
theorem dX12_isPlain_16 : decode cX12_isPlain 16 = .ok (.ifCond .eq 17, 3) := by decide +kernel
theorem dX12_isPlain_19 : decode cX12_isPlain 19 = .ok (.iload 5, 2) := by decide +kernel
theorem dX12_isPlain_21 : decode cX12_isPlain 21 = .ok (.iload_n 0, 1) := by decide +kernel
theorem dX12_isPlain_22 : decode cX12_isPlain 22 = .ok (.iload_n 1, 1) := by decide +kernel
theorem dX12_isPlain_23 : decode cX12_isPlain 23 = .ok (.iadd, 1) := by decide +kernel
theorem dX12_isPlain_24 : decode cX12_isPlain 24 = .ok (.irem, 1) := by decide +kernel
theorem dX12_isPlain_25 : decode cX12_isPlain 25 = .ok (.iload_n 0, 1) := by decide +kernel
theorem dX12_isPlain_26 : decode cX12_isPlain 26 = .ok (.if_icmp .ge 7, 3) := by decide +kernel
theorem dX12_isPlain_29 : decode cX12_isPlain 29 = .ok (.iconst 1, 1) := by decide +kernel
theorem dX12_isPlain_30 : decode cX12_isPlain 30 = .ok (.goto 4, 3) := by decide +kernel
theorem dX12_isPlain_33 : decode cX12_isPlain 33 = .ok (.iconst 0, 1) := by decide +kernel
theorem dX12_isPlain_34 : decode cX12_isPlain 34 = .ok (.istore 4, 2) := by decide +kernel
theorem dX12_isPlain_36 : decode cX12_isPlain 36 = .ok (.iinc 5 1, 3) := by decide +kernel
theorem dX12_isPlain_39 : decode cX12_isPlain 39 = .ok (.goto (-33), 3) := by decide +kernel
theorem dX12_isPlain_42 : decode cX12_isPlain 42 = .ok (.iload 4, 2) := by decide +kernel
theorem dX12_isPlain_44 : decode cX12_isPlain 44 = .ok (.ireturn, 1) := by decide +kernel
theorem dX12_suits_0 : decode cX12_suits 0 = .ok (.iload_n 1, 1) := by decide +kernel
theorem dX12_suits_1 : decode cX12_suits 1 = .ok (.iload_n 2, 1) := by decide +kernel
theorem dX12_suits_2 : decode cX12_suits 2 = .ok (.iload 5, 2) := by decide +kernel
theorem dX12_suits_4 : decode cX12_suits 4 = .ok (.invokestatic 536, 3) := by decide +kernel
theorem dX12_suits_7 : decode cX12_suits 7 = .ok (.ifCond .eq 14, 3) := by decide +kernel
theorem dX12_suits_10 : decode cX12_suits 10 = .ok (.iload_n 3, 1) := by decide +kernel
theorem dX12_suits_11 : decode cX12_suits 11 = .ok (.iload 4, 2) := by decide +kernel
theorem dX12_suits_13 : decode cX12_suits 13 = .ok (.iload 5, 2) := by decide +kernel
theorem dX12_suits_15 : decode cX12_suits 15 = .ok (.invokestatic 536, 3) := by decide +kernel
theorem dX12_suits_18 : decode cX12_suits 18 = .ok (.ifCond .ne 7, 3) := by decide +kernel
theorem dX12_suits_21 : decode cX12_suits 21 = .ok (.ldc2_w 517, 3) := by decide +kernel
theorem dX12_suits_24 : decode cX12_suits 24 = .ok (.lreturn, 1) := by decide +kernel
theorem dX12_suits_25 : decode cX12_suits 25 = .ok (.lconst 0, 1) := by decide +kernel
theorem dX12_suits_26 : decode cX12_suits 26 = .ok (.lstore 6, 2) := by decide +kernel
theorem dX12_suits_28 : decode cX12_suits 28 = .ok (.iconst 1, 1) := by decide +kernel
theorem dX12_suits_29 : decode cX12_suits 29 = .ok (.istore 8, 2) := by decide +kernel
theorem dX12_suits_31 : decode cX12_suits 31 = .ok (.iload 8, 2) := by decide +kernel
theorem dX12_suits_33 : decode cX12_suits 33 = .ok (.bipush 60, 2) := by decide +kernel
theorem dX12_suits_35 : decode cX12_suits 35 = .ok (.if_icmp .gt 45, 3) := by decide +kernel
theorem dX12_suits_38 : decode cX12_suits 38 = .ok (.iload_n 1, 1) := by decide +kernel
theorem dX12_suits_39 : decode cX12_suits 39 = .ok (.iload_n 2, 1) := by decide +kernel
theorem dX12_suits_40 : decode cX12_suits 40 = .ok (.iload 5, 2) := by decide +kernel
theorem dX12_suits_42 : decode cX12_suits 42 = .ok (.iload 8, 2) := by decide +kernel
theorem dX12_suits_44 : decode cX12_suits 44 = .ok (.invokestatic 543, 3) := by decide +kernel
theorem dX12_suits_47 : decode cX12_suits 47 = .ok (.ifCond .le 27, 3) := by decide +kernel
theorem dX12_suits_50 : decode cX12_suits 50 = .ok (.iload_n 3, 1) := by decide +kernel
theorem dX12_suits_51 : decode cX12_suits 51 = .ok (.iload 4, 2) := by decide +kernel
theorem dX12_suits_53 : decode cX12_suits 53 = .ok (.iload 5, 2) := by decide +kernel
theorem dX12_suits_55 : decode cX12_suits 55 = .ok (.iload 8, 2) := by decide +kernel
theorem dX12_suits_57 : decode cX12_suits 57 = .ok (.invokestatic 543, 3) := by decide +kernel
theorem dX12_suits_60 : decode cX12_suits 60 = .ok (.ifCond .le 14, 3) := by decide +kernel
theorem dX12_suits_63 : decode cX12_suits 63 = .ok (.lload 6, 2) := by decide +kernel
theorem dX12_suits_65 : decode cX12_suits 65 = .ok (.lconst 1, 1) := by decide +kernel
theorem dX12_suits_66 : decode cX12_suits 66 = .ok (.iload 8, 2) := by decide +kernel
theorem dX12_suits_68 : decode cX12_suits 68 = .ok (.iconst 1, 1) := by decide +kernel
theorem dX12_suits_69 : decode cX12_suits 69 = .ok (.isub, 1) := by decide +kernel
theorem dX12_suits_70 : decode cX12_suits 70 = .ok (.lshl, 1) := by decide +kernel
theorem dX12_suits_71 : decode cX12_suits 71 = .ok (.lor, 1) := by decide +kernel
theorem dX12_suits_72 : decode cX12_suits 72 = .ok (.lstore 6, 2) := by decide +kernel
theorem dX12_suits_74 : decode cX12_suits 74 = .ok (.iinc 8 1, 3) := by decide +kernel
theorem dX12_suits_77 : decode cX12_suits 77 = .ok (.goto (-46), 3) := by decide +kernel
theorem dX12_suits_80 : decode cX12_suits 80 = .ok (.lload 6, 2) := by decide +kernel
theorem dX12_suits_82 : decode cX12_suits 82 = .ok (.lreturn, 1) := by decide +kernel
set_option maxHeartbeats 4000000 in
set_option maxRecDepth 100000 in
theorem n_areSlabs (l : Launch) (D : va_G) (k : KT) (A : Nat → Prop) (a : Nat → Nat) (z : SK) (G : GS) (p0 : Int32) (p1 : Int32) (p2 : Int32)  : Met l yX12_areSlabs (WS yX12_areSlabs cX12_areSlabs 3 (some .boolean)) ({ frames := 1, cells := 0, slots := 0, locals := 22 }) (va_Pc [.int p0, .int p1, .int p2] (cW D k A a z G)) (va_Qi (fun (r : Int32) (G1 : GS) => Bd G1 ∧ Fr [] [] G G1 ∧ (0 ≤ r.toInt ∧ r.toInt ≤ 1) ∧ (r.toInt = 1 → 1 ≤ p0.toInt ∧ p0.toInt ≤ 60 ∧ 0 ≤ p1.toInt ∧ p1.toInt ≤ 9 ∧ 1 ≤ p2.toInt ∧ p2.toInt ≤ 12)) (fun (G1 : GS) t => Wd D k A a G1 t.heap) A) 0 0 A := by
  refine Met.ofW (cc := cX12_areSlabs) (maxL := 3) (ret := (some .boolean)) (by decide) rfl ?_
  intro p e s m args below meth c s₁ B hml hv
  obtain ⟨rfl, hW, hB_G, hK, hZ⟩ := hv
  have hx := B.exec
  have hb := B.bytes
  have hr := B.returns
  have hts := atoms_spec (ws := WS yX12_areSlabs cX12_areSlabs 3 (some .boolean)) B.pre
  have hgd : ∀ w ∈ gd, w ∈ WS yX12_areSlabs cX12_areSlabs 3 (some .boolean) := fun w h => List.mem_cons_of_mem _ h
  have hg : ∀ w ∈ gd, w.before _ s = true := fun w h => hts w (hgd w h)
  have hown : s.vm.findClass RX12 = some m.cls := findClass_of_methodNamed B.named
  have hS : va_S A s.heap s.heap [] := va_S.rf
  have hF : Fr [] [] G G := Fr.rf
  have hl := lv_entry ([.int p0, .int p1, .int p2]) (n := 3) (Nat.le_of_ble_eq_true rfl)
  rw [lg_entry_eq]
  generalize (lg_sl ([.int p0, .int p1, .int p2]) ++ List.replicate (3 - (lg_sl ([.int p0, .int p1, .int p2])).length) Slot.unset).toArray = ls at hl ⊢
  have hl : lv_has ls 3 [(0, .int p0), (1, .int p1), (2, .int p2)] := hl
  refine lv_iload_n hx hb dX12_areSlabs_0 rfl (lv_at hl 0 rfl) ?_
  refine lv_iconst (v := 1) hx hb dX12_areSlabs_1 (by decide) ?_
  refine lv_bipush (v := 60) hx hb dX12_areSlabs_2 (by decide) ?_
  have qc_1 : (1 : Int32).toInt = 1 := rfl
  have qc_2 : (60 : Int32).toInt = 60 := rfl
  refine S_calli (va_runS (As := [.int p0, .int 1, .int 60]) (rest := []) ⟨hx, hb, hml, hown, hts⟩ (n_isIn l D k A a z G p0 1 60 ) (va_cwS 3 hts (gd_S hgd m1781 m1782 m131 m1783) rfl rfl rfl (by decide +kernel) ⟨Nat.le_of_ble_eq_true rfl, Nat.le_of_ble_eq_true rfl⟩) (pre_S hW hB_G hK hZ hS) rfl rfl hl.1 rfl (lv_room (Nat.le_of_ble_eq_true rfl)) dX12_areSlabs_4 ⟨Nat.le_of_ble_eq_true rfl, Nat.le_of_ble_eq_true rfl⟩) hS (fun r_3 G_4 H locs hpo hW hS => ?_)
  obtain ⟨hB_G_4, hq_5, f_7, hp_6⟩ := hpo
  have hF := hF.call hq_5 (by decide) (by decide)
  refine lv_if_eq (tgt := 34) hx hb dX12_areSlabs_7 (by decide) (fun c_8 => ?_) (fun c_8 => ?_)
  · have c_8 : r_3.toInt = 0 := xI_eq rfl rfl c_8
    refine lv_iconst (v := 0) hx hb dX12_areSlabs_34 (by decide) ?_
    exact W.zret (v := 0) hx hb hr (by decide) (fun t ht _ => ⟨⟨0, G_4, rfl, ⟨hB_G_4, hF, ⟨by decide, by decide⟩, (by have hq : (0 : Int32).toInt = 0 := rfl; (try dsimp only); omega)⟩, wd_t ht hW⟩, hS.F ht⟩) hS.2.2 dX12_areSlabs_35
  · have c_8 : r_3.toInt ≠ 0 := xI_ne rfl rfl c_8
    refine lv_iload_n hx hb dX12_areSlabs_10 rfl (lv_at hl 1 rfl) ?_
    refine lv_iconst (v := 0) hx hb dX12_areSlabs_11 (by decide) ?_
    refine lv_bipush (v := 9) hx hb dX12_areSlabs_12 (by decide) ?_
    have qc_9 : (0 : Int32).toInt = 0 := rfl
    have qc_10 : (9 : Int32).toInt = 9 := rfl
    refine S_calli (va_runS (As := [.int p1, .int 0, .int 9]) (rest := []) ⟨hx, hb, hml, hown, hts⟩ (n_isIn l D k A a z G_4 p1 0 9 ) (va_cwS 3 hts (gd_S hgd m1781 m1782 m131 m1783) rfl rfl rfl (by decide +kernel) ⟨Nat.le_of_ble_eq_true rfl, Nat.le_of_ble_eq_true rfl⟩) (pre_S hW hB_G_4 hK hZ hS) rfl rfl hl.1 rfl (lv_room (Nat.le_of_ble_eq_true rfl)) dX12_areSlabs_14 ⟨Nat.le_of_ble_eq_true rfl, Nat.le_of_ble_eq_true rfl⟩) hS (fun r_11 G_12 H locs hpo hW hS => ?_)
    obtain ⟨hB_G_12, hq_13, f_15, hp_14⟩ := hpo
    have hF := hF.call hq_13 (by decide) (by decide)
    refine lv_if_eq (tgt := 34) hx hb dX12_areSlabs_17 (by decide) (fun c_16 => ?_) (fun c_16 => ?_)
    · have c_16 : r_11.toInt = 0 := xI_eq rfl rfl c_16
      refine lv_iconst (v := 0) hx hb dX12_areSlabs_34 (by decide) ?_
      exact W.zret (v := 0) hx hb hr (by decide) (fun t ht _ => ⟨⟨0, G_12, rfl, ⟨hB_G_12, hF, ⟨by decide, by decide⟩, (by have hq : (0 : Int32).toInt = 0 := rfl; (try dsimp only); omega)⟩, wd_t ht hW⟩, hS.F ht⟩) hS.2.2 dX12_areSlabs_35
    · have c_16 : r_11.toInt ≠ 0 := xI_ne rfl rfl c_16
      refine lv_iload_n hx hb dX12_areSlabs_20 rfl (lv_at hl 2 rfl) ?_
      refine lv_iconst (v := 1) hx hb dX12_areSlabs_21 (by decide) ?_
      refine lv_bipush (v := 12) hx hb dX12_areSlabs_22 (by decide) ?_
      have qc_17 : (1 : Int32).toInt = 1 := rfl
      have qc_18 : (12 : Int32).toInt = 12 := rfl
      refine S_calli (va_runS (As := [.int p2, .int 1, .int 12]) (rest := []) ⟨hx, hb, hml, hown, hts⟩ (n_isIn l D k A a z G_12 p2 1 12 ) (va_cwS 3 hts (gd_S hgd m1781 m1782 m131 m1783) rfl rfl rfl (by decide +kernel) ⟨Nat.le_of_ble_eq_true rfl, Nat.le_of_ble_eq_true rfl⟩) (pre_S hW hB_G_12 hK hZ hS) rfl rfl hl.1 rfl (lv_room (Nat.le_of_ble_eq_true rfl)) dX12_areSlabs_24 ⟨Nat.le_of_ble_eq_true rfl, Nat.le_of_ble_eq_true rfl⟩) hS (fun r_19 G_20 H locs hpo hW hS => ?_)
      obtain ⟨hB_G_20, hq_21, f_23, hp_22⟩ := hpo
      have hF := hF.call hq_21 (by decide) (by decide)
      refine lv_if_eq (tgt := 34) hx hb dX12_areSlabs_27 (by decide) (fun c_24 => ?_) (fun c_24 => ?_)
      · have c_24 : r_19.toInt = 0 := xI_eq rfl rfl c_24
        refine lv_iconst (v := 0) hx hb dX12_areSlabs_34 (by decide) ?_
        exact W.zret (v := 0) hx hb hr (by decide) (fun t ht _ => ⟨⟨0, G_20, rfl, ⟨hB_G_20, hF, ⟨by decide, by decide⟩, (by have hq : (0 : Int32).toInt = 0 := rfl; (try dsimp only); omega)⟩, wd_t ht hW⟩, hS.F ht⟩) hS.2.2 dX12_areSlabs_35
      · have c_24 : r_19.toInt ≠ 0 := xI_ne rfl rfl c_24
        refine lv_iconst (v := 1) hx hb dX12_areSlabs_30 (by decide) ?_
        refine lv_goto (tgt := 35) hx hb dX12_areSlabs_31 (by decide) ?_
        exact W.zret (v := 1) hx hb hr (by decide) (fun t ht _ => ⟨⟨1, G_20, rfl, ⟨hB_G_20, hF, ⟨by decide, by decide⟩, (by have hq : (1 : Int32).toInt = 1 := rfl; (try dsimp only); omega)⟩, wd_t ht hW⟩, hS.F ht⟩) hS.2.2 dX12_areSlabs_35

set_option maxHeartbeats 4000000 in
set_option maxRecDepth 100000 in
theorem n_isPlain (l : Launch) (D : va_G) (k : KT) (A : Nat → Prop) (a : Nat → Nat) (z : SK) (G : GS) (p0 : Int32) (p1 : Int32) (p2 : Int32) (p3 : Int32) (ha_p0 : 1 ≤ p0.toInt ∧ p0.toInt ≤ 60) (ha_p1 : 0 ≤ p1.toInt ∧ p1.toInt ≤ 9) (ha_p2 : 1 ≤ p2.toInt ∧ p2.toInt ≤ 12) (ha_p3 : 0 ≤ p3.toInt ∧ p3.toInt ≤ 200) : Met l yX12_isPlain (WS yX12_isPlain cX12_isPlain 6 (some .boolean)) ({ frames := 0, cells := 0, slots := 0, locals := 0 }) (va_Pc [.int p0, .int p1, .int p2, .int p3] (cW D k A a z G)) (va_Qi (fun (r : Int32) (G1 : GS) => Bd G1 ∧ Fr [] [] G G1 ∧ (0 ≤ r.toInt ∧ r.toInt ≤ 1)) (fun (G1 : GS) t => Wd D k A a G1 t.heap) A) 0 0 A := by
  refine Met.ofW (cc := cX12_isPlain) (maxL := 6) (ret := (some .boolean)) (by decide) rfl ?_
  intro p e s m args below meth c s₁ B hml hv
  obtain ⟨rfl, hW, hB_G, hK, hZ⟩ := hv
  have hx := B.exec
  have hb := B.bytes
  have hr := B.returns
  have hts := atoms_spec (ws := WS yX12_isPlain cX12_isPlain 6 (some .boolean)) B.pre
  have hgd : ∀ w ∈ gd, w ∈ WS yX12_isPlain cX12_isPlain 6 (some .boolean) := fun w h => List.mem_cons_of_mem _ h
  have hg : ∀ w ∈ gd, w.before _ s = true := fun w h => hts w (hgd w h)
  have hown : s.vm.findClass RX12 = some m.cls := findClass_of_methodNamed B.named
  have hS : va_S A s.heap s.heap [] := va_S.rf
  have hF : Fr [] [] G G := Fr.rf
  have hl := lv_entry ([.int p0, .int p1, .int p2, .int p3]) (n := 6) (Nat.le_of_ble_eq_true rfl)
  rw [lg_entry_eq]
  generalize (lg_sl ([.int p0, .int p1, .int p2, .int p3]) ++ List.replicate (6 - (lg_sl ([.int p0, .int p1, .int p2, .int p3])).length) Slot.unset).toArray = ls at hl ⊢
  have hl : lv_has ls 6 [(0, .int p0), (1, .int p1), (2, .int p2), (3, .int p3)] := hl
  refine lv_iconst (v := 1) hx hb dX12_isPlain_0 (by decide) ?_
  refine lv_istore (lv' := [(4, .int 1), (0, .int p0), (1, .int p1), (2, .int p2), (3, .int p3)]) hx hb dX12_isPlain_1 hl (by decide) rfl (fun ls hl => ?_)
  refine lv_iload_n hx hb dX12_isPlain_3 rfl (lv_at hl 4 rfl) ?_
  refine lv_istore (lv' := [(5, .int p3), (4, .int 1), (0, .int p0), (1, .int p1), (2, .int p2), (3, .int p3)]) hx hb dX12_isPlain_4 hl (by decide) rfl (fun ls hl => ?_)
  have qc_7 : (1 : Int32).toInt = 1 := rfl
  refine loop_N (Inv := fun n H locs ls => ∃ (G_1 : GS) (x_5 : Int32) (x_6 : Int32), (n : Int) = 212 - x_5.toInt ∧ (0 ≤ x_5.toInt ∧ x_5.toInt ≤ 212) ∧ (0 ≤ x_6.toInt ∧ x_6.toInt ≤ 1) ∧ Wd D k A a G_1 H ∧ Bd G_1 ∧ Fr [] [] G G_1 ∧ Fr [] [] G G_1 ∧ va_S A s.heap H locs ∧ lv_has ls 6 [(5, .int x_5), (4, .int x_6), (0, .int p0), (1, .int p1), (2, .int p2), (3, .int p3)]) (fun n_4 H locs ls ih_3 hI => ?_) (212 - p3.toInt : Int).toNat ⟨G, p3, 1, (Int.toNat_of_nonneg (by omega)), ⟨by omega, by omega⟩, ⟨by omega, by omega⟩, hW, hB_G, hF, Fr.rf, hS, lv_sub hl [0, 1, 2, 3, 4, 5] rfl⟩
  obtain ⟨G_1, x_5, x_6, hn_10, f_8, f_9, hW, hB_G_1, hF, hq_2, hS, hl⟩ := hI
  refine lv_iload hx hb dX12_isPlain_6 (lv_at hl 0 rfl) ?_
  refine lv_iload_n hx hb dX12_isPlain_8 rfl (lv_at hl 5 rfl) ?_
  refine lv_iload_n hx hb dX12_isPlain_9 rfl (lv_at hl 4 rfl) ?_
  refine lv_iadd hx hb dX12_isPlain_10 ?_
  refine lv_topi (fun y_11 ey_11 => ?_)
  have ty_11 : y_11.toInt = p3.toInt + p2.toInt := xI_add rfl rfl ey_11 (by omega) (by omega)
  refine lv_icmp_ge (tgt := 42) hx hb dX12_isPlain_11 (by decide) (fun c_12 => ?_) (fun c_12 => ?_)
  · have c_12 : y_11.toInt ≤ x_5.toInt := xI_le rfl rfl c_12
    refine lv_iload hx hb dX12_isPlain_42 (lv_at hl 1 rfl) ?_
    exact W.zret (v := x_6) hx hb hr (nar_z (by omega) (by omega)) (fun t ht _ => ⟨⟨x_6, G_1, rfl, ⟨hB_G_1, hF, ⟨by omega, by omega⟩⟩, wd_t ht hW⟩, hS.F ht⟩) hS.2.2 dX12_isPlain_44
  · have c_12 : x_5.toInt < y_11.toInt := xI_nle rfl rfl c_12
    refine lv_iload hx hb dX12_isPlain_14 (lv_at hl 1 rfl) ?_
    refine lv_if_eq (tgt := 33) hx hb dX12_isPlain_16 (by decide) (fun c_13 => ?_) (fun c_13 => ?_)
    · have c_13 : x_6.toInt = 0 := xI_eq rfl rfl c_13
      refine lv_iconst (v := 0) hx hb dX12_isPlain_33 (by decide) ?_
      refine lv_istore (lv' := [(4, .int 0), (5, .int x_5), (0, .int p0), (1, .int p1), (2, .int p2), (3, .int p3)]) hx hb dX12_isPlain_34 hl (by decide) rfl (fun ls hl => ?_)
      obtain ⟨y_14, ey_14⟩ : ∃ q, q = x_5 + 1 := ⟨_, rfl⟩
      have ty_14 : y_14.toInt = x_5.toInt + 1 := xI_add rfl rfl ey_14 (by omega) (by omega)
      refine lv_iinc (v := y_14) (lv' := [(5, .int y_14), (4, .int 0), (0, .int p0), (1, .int p1), (2, .int p2), (3, .int p3)]) hx hb dX12_isPlain_36 hl (k := 1) rfl (by rw [ey_14]; rfl) (by decide) rfl (fun ls hl => ?_)
      refine lv_goto (tgt := 6) hx hb dX12_isPlain_39 (by decide) ?_
      have qc_15 : (0 : Int32).toInt = 0 := rfl
      exact ih_3 (212 - y_14.toInt : Int).toNat (by omega) _ _ _ ⟨G_1, y_14, 0, (Int.toNat_of_nonneg (by omega)), ⟨by omega, by omega⟩, ⟨by omega, by omega⟩, hW, hB_G_1, hF, (Fr.rf.call hq_2 (by decide) (by decide)), hS, lv_sub hl [0, 1, 2, 3, 4, 5] rfl⟩
    · have c_13 : x_6.toInt ≠ 0 := xI_ne rfl rfl c_13
      refine lv_iload hx hb dX12_isPlain_19 (lv_at hl 0 rfl) ?_
      refine lv_iload_n hx hb dX12_isPlain_21 rfl (lv_at hl 2 rfl) ?_
      refine lv_iload_n hx hb dX12_isPlain_22 rfl (lv_at hl 3 rfl) ?_
      refine lv_iadd hx hb dX12_isPlain_23 ?_
      refine lv_topi (fun y_16 ey_16 => ?_)
      have ty_16 : y_16.toInt = p0.toInt + p1.toInt := xI_add rfl rfl ey_16 (by omega) (by omega)
      refine lv_irem hx hb dX12_isPlain_24 (fun q => by have q := xI_eq (Y := 0) rfl rfl q; omega) ?_
      refine lv_topi (fun y_17 ey_17 => ?_)
      have ty_17 : 0 ≤ y_17.toInt ∧ y_17.toInt < y_16.toInt := xI_modB ey_17 (by omega) (by omega)
      refine lv_iload_n hx hb dX12_isPlain_25 rfl (lv_at hl 2 rfl) ?_
      refine lv_icmp_ge (tgt := 33) hx hb dX12_isPlain_26 (by decide) (fun c_18 => ?_) (fun c_18 => ?_)
      · have c_18 : p0.toInt ≤ y_17.toInt := xI_le rfl rfl c_18
        refine lv_iconst (v := 0) hx hb dX12_isPlain_33 (by decide) ?_
        refine lv_istore (lv' := [(4, .int 0), (5, .int x_5), (0, .int p0), (1, .int p1), (2, .int p2), (3, .int p3)]) hx hb dX12_isPlain_34 hl (by decide) rfl (fun ls hl => ?_)
        obtain ⟨y_19, ey_19⟩ : ∃ q, q = x_5 + 1 := ⟨_, rfl⟩
        have ty_19 : y_19.toInt = x_5.toInt + 1 := xI_add rfl rfl ey_19 (by omega) (by omega)
        refine lv_iinc (v := y_19) (lv' := [(5, .int y_19), (4, .int 0), (0, .int p0), (1, .int p1), (2, .int p2), (3, .int p3)]) hx hb dX12_isPlain_36 hl (k := 1) rfl (by rw [ey_19]; rfl) (by decide) rfl (fun ls hl => ?_)
        refine lv_goto (tgt := 6) hx hb dX12_isPlain_39 (by decide) ?_
        have qc_20 : (0 : Int32).toInt = 0 := rfl
        exact ih_3 (212 - y_19.toInt : Int).toNat (by omega) _ _ _ ⟨G_1, y_19, 0, (Int.toNat_of_nonneg (by omega)), ⟨by omega, by omega⟩, ⟨by omega, by omega⟩, hW, hB_G_1, hF, (Fr.rf.call hq_2 (by decide) (by decide)), hS, lv_sub hl [0, 1, 2, 3, 4, 5] rfl⟩
      · have c_18 : y_17.toInt < p0.toInt := xI_nle rfl rfl c_18
        refine lv_iconst (v := 1) hx hb dX12_isPlain_29 (by decide) ?_
        refine lv_goto (tgt := 34) hx hb dX12_isPlain_30 (by decide) ?_
        refine lv_istore (lv' := [(4, .int 1), (5, .int x_5), (0, .int p0), (1, .int p1), (2, .int p2), (3, .int p3)]) hx hb dX12_isPlain_34 hl (by decide) rfl (fun ls hl => ?_)
        obtain ⟨y_21, ey_21⟩ : ∃ q, q = x_5 + 1 := ⟨_, rfl⟩
        have ty_21 : y_21.toInt = x_5.toInt + 1 := xI_add rfl rfl ey_21 (by omega) (by omega)
        refine lv_iinc (v := y_21) (lv' := [(5, .int y_21), (4, .int 1), (0, .int p0), (1, .int p1), (2, .int p2), (3, .int p3)]) hx hb dX12_isPlain_36 hl (k := 1) rfl (by rw [ey_21]; rfl) (by decide) rfl (fun ls hl => ?_)
        refine lv_goto (tgt := 6) hx hb dX12_isPlain_39 (by decide) ?_
        have qc_22 : (1 : Int32).toInt = 1 := rfl
        exact ih_3 (212 - y_21.toInt : Int).toNat (by omega) _ _ _ ⟨G_1, y_21, 1, (Int.toNat_of_nonneg (by omega)), ⟨by omega, by omega⟩, ⟨by omega, by omega⟩, hW, hB_G_1, hF, (Fr.rf.call hq_2 (by decide) (by decide)), hS, lv_sub hl [0, 1, 2, 3, 4, 5] rfl⟩

set_option maxHeartbeats 4000000 in
set_option maxRecDepth 100000 in
theorem n_firstOf (l : Launch) (D : va_G) (k : KT) (A : Nat → Prop) (a : Nat → Nat) (z : SK) (G : GS) (p0 : Int32) (p1 : Int32) (p2 : Int32) (p3 : Int32) (p4 : Int32) (ha_p0 : 1 ≤ p0.toInt ∧ p0.toInt ≤ 60) (ha_p1 : 0 ≤ p1.toInt ∧ p1.toInt ≤ 9) (ha_p2 : 1 ≤ p2.toInt ∧ p2.toInt ≤ 12) (ha_p3 : 1 ≤ p3.toInt ∧ p3.toInt ≤ 99) (ha_p4 : 0 ≤ p4.toInt ∧ p4.toInt ≤ 68) : Met l yX12_firstOf (WS yX12_firstOf cX12_firstOf 7 (some .int)) ({ frames := 1, cells := 0, slots := 0, locals := 25 }) (va_Pc [.int p0, .int p1, .int p2, .int p3, .int p4] (cW D k A a z G)) (va_Qi (fun (r : Int32) (G1 : GS) => Bd G1 ∧ Fr [] [] G G1) (fun (G1 : GS) t => Wd D k A a G1 t.heap) A) 0 0 A := by
  refine Met.ofW (cc := cX12_firstOf) (maxL := 7) (ret := (some .int)) (by decide) rfl ?_
  intro p e s m args below meth c s₁ B hml hv
  obtain ⟨rfl, hW, hB_G, hK, hZ⟩ := hv
  have hx := B.exec
  have hb := B.bytes
  have hr := B.returns
  have hts := atoms_spec (ws := WS yX12_firstOf cX12_firstOf 7 (some .int)) B.pre
  have hgd : ∀ w ∈ gd, w ∈ WS yX12_firstOf cX12_firstOf 7 (some .int) := fun w h => List.mem_cons_of_mem _ h
  have hg : ∀ w ∈ gd, w.before _ s = true := fun w h => hts w (hgd w h)
  have hown : s.vm.findClass RX12 = some m.cls := findClass_of_methodNamed B.named
  have hS : va_S A s.heap s.heap [] := va_S.rf
  have hF : Fr [] [] G G := Fr.rf
  have hl := lv_entry ([.int p0, .int p1, .int p2, .int p3, .int p4]) (n := 7) (Nat.le_of_ble_eq_true rfl)
  rw [lg_entry_eq]
  generalize (lg_sl ([.int p0, .int p1, .int p2, .int p3, .int p4]) ++ List.replicate (7 - (lg_sl ([.int p0, .int p1, .int p2, .int p3, .int p4])).length) Slot.unset).toArray = ls at hl ⊢
  have hl : lv_has ls 7 [(0, .int p0), (1, .int p1), (2, .int p2), (3, .int p3), (4, .int p4)] := hl
  refine lv_iload hx hb dX12_firstOf_0 (lv_at hl 4 rfl) ?_
  refine lv_istore (lv' := [(5, .int p4), (0, .int p0), (1, .int p1), (2, .int p2), (3, .int p3), (4, .int p4)]) hx hb dX12_firstOf_2 hl (by decide) rfl (fun ls hl => ?_)
  refine lv_iconst (v := 0) hx hb dX12_firstOf_4 (by decide) ?_
  refine lv_istore (lv' := [(6, .int 0), (5, .int p4), (0, .int p0), (1, .int p1), (2, .int p2), (3, .int p3), (4, .int p4)]) hx hb dX12_firstOf_5 hl (by decide) rfl (fun ls hl => ?_)
  have qc_7 : (0 : Int32).toInt = 0 := rfl
  refine loop_N (Inv := fun n H locs ls => ∃ (G_1 : GS) (x_5 : Int32) (x_6 : Int32), (n : Int) = 70 - x_5.toInt ∧ (0 ≤ x_5.toInt ∧ x_5.toInt ≤ 70) ∧ (0 ≤ x_6.toInt ∧ x_6.toInt ≤ 68) ∧ Wd D k A a G_1 H ∧ Bd G_1 ∧ Fr [] [] G G_1 ∧ Fr [] [] G G_1 ∧ va_S A s.heap H locs ∧ lv_has ls 7 [(6, .int x_5), (5, .int x_6), (0, .int p0), (1, .int p1), (2, .int p2), (3, .int p3)]) (fun n_4 H locs ls ih_3 hI => ?_) (70 - 0 : Int).toNat ⟨G, 0, p4, (Int.toNat_of_nonneg (by omega)), ⟨by omega, by omega⟩, ⟨by omega, by omega⟩, hW, hB_G, hF, Fr.rf, hS, lv_sub hl [0, 1, 2, 3, 4, 5] rfl⟩
  obtain ⟨G_1, x_5, x_6, hn_10, f_8, f_9, hW, hB_G_1, hF, hq_2, hS, hl⟩ := hI
  refine lv_iload hx hb dX12_firstOf_7 (lv_at hl 0 rfl) ?_
  refine lv_iload_n hx hb dX12_firstOf_9 rfl (lv_at hl 2 rfl) ?_
  refine lv_iload_n hx hb dX12_firstOf_10 rfl (lv_at hl 3 rfl) ?_
  refine lv_iadd hx hb dX12_firstOf_11 ?_
  refine lv_topi (fun y_11 ey_11 => ?_)
  have ty_11 : y_11.toInt = p0.toInt + p1.toInt := xI_add rfl rfl ey_11 (by omega) (by omega)
  refine lv_icmp_gt (tgt := 45) hx hb dX12_firstOf_12 (by decide) (fun c_12 => ?_) (fun c_12 => ?_)
  · have c_12 : y_11.toInt < x_5.toInt := xI_lt rfl rfl c_12
    refine lv_iconst (v := (-1)) hx hb dX12_firstOf_45 (by decide) ?_
    exact W.iret (v := (-1)) hx hb hr (fun t ht _ => ⟨⟨(-1), G_1, rfl, ⟨hB_G_1, hF⟩, wd_t ht hW⟩, hS.F ht⟩) hS.2.2 dX12_firstOf_46
  · have c_12 : x_5.toInt ≤ y_11.toInt := xI_nlt rfl rfl c_12
    refine lv_iload_n hx hb dX12_firstOf_15 rfl (lv_at hl 2 rfl) ?_
    refine lv_iload_n hx hb dX12_firstOf_16 rfl (lv_at hl 3 rfl) ?_
    refine lv_iload_n hx hb dX12_firstOf_17 rfl (lv_at hl 4 rfl) ?_
    refine lv_iload hx hb dX12_firstOf_18 (lv_at hl 1 rfl) ?_
    refine S_calli (va_runS (As := [.int p0, .int p1, .int p2, .int x_6]) (rest := []) ⟨hx, hb, hml, hown, hts⟩ (n_isPlain l D k A a z G_1 p0 p1 p2 x_6 ⟨by omega, by omega⟩ ⟨by omega, by omega⟩ ⟨by omega, by omega⟩ ⟨by omega, by omega⟩) (va_cwS 4 hts (gd_S hgd m1913 m1914 m131 m1915) rfl rfl rfl (by decide +kernel) ⟨Nat.le_of_ble_eq_true rfl, Nat.le_of_ble_eq_true rfl⟩) (pre_S hW hB_G_1 hK hZ hS) rfl rfl hl.1 rfl (lv_room (Nat.le_of_ble_eq_true rfl)) dX12_firstOf_20 ⟨Nat.le_of_ble_eq_true rfl, Nat.le_of_ble_eq_true rfl⟩) hS (fun r_13 G_14 H locs hpo hW hS => ?_)
    obtain ⟨hB_G_14, hq_15, f_17⟩ := hpo
    have hF := hF.call hq_15 (by decide) (by decide)
    refine lv_if_ne (tgt := 29) hx hb dX12_firstOf_23 (by decide) (fun c_18 => ?_) (fun c_18 => ?_)
    · have c_18 : r_13.toInt ≠ 0 := xI_ne rfl rfl c_18
      refine lv_iload hx hb dX12_firstOf_29 (lv_at hl 1 rfl) ?_
      refine lv_iload_n hx hb dX12_firstOf_31 rfl (lv_at hl 5 rfl) ?_
      refine lv_iadd hx hb dX12_firstOf_32 ?_
      refine lv_topi (fun y_19 ey_19 => ?_)
      have ty_19 : y_19.toInt = x_6.toInt + p3.toInt := xI_add rfl rfl ey_19 (by omega) (by omega)
      refine lv_iload_n hx hb dX12_firstOf_33 rfl (lv_at hl 2 rfl) ?_
      refine lv_iload_n hx hb dX12_firstOf_34 rfl (lv_at hl 3 rfl) ?_
      refine lv_iadd hx hb dX12_firstOf_35 ?_
      refine lv_topi (fun y_20 ey_20 => ?_)
      have ty_20 : y_20.toInt = p0.toInt + p1.toInt := xI_add rfl rfl ey_20 (by omega) (by omega)
      refine lv_irem hx hb dX12_firstOf_36 (fun q => by have q := xI_eq (Y := 0) rfl rfl q; omega) ?_
      refine lv_topi (fun y_21 ey_21 => ?_)
      have ty_21 : 0 ≤ y_21.toInt ∧ y_21.toInt < y_20.toInt := xI_modB ey_21 (by omega) (by omega)
      refine lv_istore (lv' := [(5, .int y_21), (6, .int x_5), (0, .int p0), (1, .int p1), (2, .int p2), (3, .int p3)]) hx hb dX12_firstOf_37 hl (by decide) rfl (fun ls hl => ?_)
      obtain ⟨y_22, ey_22⟩ : ∃ q, q = x_5 + 1 := ⟨_, rfl⟩
      have ty_22 : y_22.toInt = x_5.toInt + 1 := xI_add rfl rfl ey_22 (by omega) (by omega)
      refine lv_iinc (v := y_22) (lv' := [(6, .int y_22), (5, .int y_21), (0, .int p0), (1, .int p1), (2, .int p2), (3, .int p3)]) hx hb dX12_firstOf_39 hl (k := 1) rfl (by rw [ey_22]; rfl) (by decide) rfl (fun ls hl => ?_)
      refine lv_goto (tgt := 7) hx hb dX12_firstOf_42 (by decide) ?_
      exact ih_3 (70 - y_22.toInt : Int).toNat (by omega) _ _ _ ⟨G_14, y_22, y_21, (Int.toNat_of_nonneg (by omega)), ⟨by omega, by omega⟩, ⟨by omega, by omega⟩, hW, hB_G_14, hF, ((Fr.rf.call hq_2 (by decide) (by decide)).call hq_15 (by decide) (by decide)), hS, lv_sub hl [0, 1, 2, 3, 4, 5] rfl⟩
    · have c_18 : r_13.toInt = 0 := xI_eq rfl rfl c_18
      refine lv_iload hx hb dX12_firstOf_26 (lv_at hl 0 rfl) ?_
      exact W.iret (v := x_5) hx hb hr (fun t ht _ => ⟨⟨x_5, G_14, rfl, ⟨hB_G_14, hF⟩, wd_t ht hW⟩, hS.F ht⟩) hS.2.2 dX12_firstOf_28

set_option maxHeartbeats 4000000 in
set_option maxRecDepth 100000 in
theorem n_first (l : Launch) (D : va_G) (k : KT) (A : Nat → Prop) (a : Nat → Nat) (z : SK) (G : GS) (p0 : Int32) (p1 : Int32) (p2 : Int32) (p3 : Int32) (p4 : Int32)  : Met l yX12_first (WS yX12_first cX12_first 6 (some .int)) ({ frames := 2, cells := 0, slots := 0, locals := 51 }) (va_Pc [.ref (a 66), .int p0, .int p1, .int p2, .int p3, .int p4] (cW D k A a z G)) (va_Qi (fun (r : Int32) (G1 : GS) => Bd G1 ∧ Fr [] [] G G1) (fun (G1 : GS) t => Wd D k A a G1 t.heap) A) 0 0 A := by
  refine Met.ofW (cc := cX12_first) (maxL := 6) (ret := (some .int)) (by decide) rfl ?_
  intro p e s m args below meth c s₁ B hml hv
  obtain ⟨rfl, hW, hB_G, hK, hZ⟩ := hv
  have hx := B.exec
  have hb := B.bytes
  have hr := B.returns
  have hts := atoms_spec (ws := WS yX12_first cX12_first 6 (some .int)) B.pre
  have hgd : ∀ w ∈ gd, w ∈ WS yX12_first cX12_first 6 (some .int) := fun w h => List.mem_cons_of_mem _ h
  have hg : ∀ w ∈ gd, w.before _ s = true := fun w h => hts w (hgd w h)
  have hown : s.vm.findClass RX12 = some m.cls := findClass_of_methodNamed B.named
  have hS : va_S A s.heap s.heap [] := va_S.rf
  have hF : Fr [] [] G G := Fr.rf
  have hl := lv_entry ([.ref (a 66), .int p0, .int p1, .int p2, .int p3, .int p4]) (n := 6) (Nat.le_of_ble_eq_true rfl)
  rw [lg_entry_eq]
  generalize (lg_sl ([.ref (a 66), .int p0, .int p1, .int p2, .int p3, .int p4]) ++ List.replicate (6 - (lg_sl ([.ref (a 66), .int p0, .int p1, .int p2, .int p3, .int p4])).length) Slot.unset).toArray = ls at hl ⊢
  have hl : lv_has ls 6 [(0, .ref (a 66)), (1, .int p0), (2, .int p1), (3, .int p2), (4, .int p3), (5, .int p4)] := hl
  refine lv_iload_n hx hb dX12_first_0 rfl (lv_at hl 1 rfl) ?_
  refine lv_iload_n hx hb dX12_first_1 rfl (lv_at hl 2 rfl) ?_
  refine lv_iload_n hx hb dX12_first_2 rfl (lv_at hl 3 rfl) ?_
  refine S_calli (va_runS (As := [.int p0, .int p1, .int p2]) (rest := []) ⟨hx, hb, hml, hown, hts⟩ (n_areSlabs l D k A a z G p0 p1 p2 ) (va_cwS 3 hts (gd_S hgd m1907 m1908 m131 m1909) rfl rfl rfl (by decide +kernel) ⟨Nat.le_of_ble_eq_true rfl, Nat.le_of_ble_eq_true rfl⟩) (pre_S hW hB_G hK hZ hS) rfl rfl hl.1 rfl (lv_room (Nat.le_of_ble_eq_true rfl)) dX12_first_3 ⟨Nat.le_of_ble_eq_true rfl, Nat.le_of_ble_eq_true rfl⟩) hS (fun r_1 G_2 H locs hpo hW hS => ?_)
  obtain ⟨hB_G_2, hq_3, f_5, hp_4⟩ := hpo
  have hF := hF.call hq_3 (by decide) (by decide)
  refine lv_if_eq (tgt := 47) hx hb dX12_first_6 (by decide) (fun c_6 => ?_) (fun c_6 => ?_)
  · have c_6 : r_1.toInt = 0 := xI_eq rfl rfl c_6
    refine lv_bipush (v := (-2)) hx hb dX12_first_47 (by decide) ?_
    exact W.iret (v := (-2)) hx hb hr (fun t ht _ => ⟨⟨(-2), G_2, rfl, ⟨hB_G_2, hF⟩, wd_t ht hW⟩, hS.F ht⟩) hS.2.2 dX12_first_49
  · have c_6 : r_1.toInt ≠ 0 := xI_ne rfl rfl c_6
    refine lv_iload hx hb dX12_first_9 (lv_at hl 4 rfl) ?_
    refine lv_iconst (v := 1) hx hb dX12_first_11 (by decide) ?_
    refine lv_bipush (v := 99) hx hb dX12_first_12 (by decide) ?_
    have qc_7 : (1 : Int32).toInt = 1 := rfl
    have qc_8 : (99 : Int32).toInt = 99 := rfl
    refine S_calli (va_runS (As := [.int p3, .int 1, .int 99]) (rest := []) ⟨hx, hb, hml, hown, hts⟩ (n_isIn l D k A a z G_2 p3 1 99 ) (va_cwS 3 hts (gd_S hgd m1781 m1782 m131 m1783) rfl rfl rfl (by decide +kernel) ⟨Nat.le_of_ble_eq_true rfl, Nat.le_of_ble_eq_true rfl⟩) (pre_S hW hB_G_2 hK hZ hS) rfl rfl hl.1 rfl (lv_room (Nat.le_of_ble_eq_true rfl)) dX12_first_14 ⟨Nat.le_of_ble_eq_true rfl, Nat.le_of_ble_eq_true rfl⟩) hS (fun r_9 G_10 H locs hpo hW hS => ?_)
    obtain ⟨hB_G_10, hq_11, f_13, hp_12⟩ := hpo
    have hF := hF.call hq_11 (by decide) (by decide)
    refine lv_if_eq (tgt := 47) hx hb dX12_first_17 (by decide) (fun c_14 => ?_) (fun c_14 => ?_)
    · have c_14 : r_9.toInt = 0 := xI_eq rfl rfl c_14
      refine lv_bipush (v := (-2)) hx hb dX12_first_47 (by decide) ?_
      exact W.iret (v := (-2)) hx hb hr (fun t ht _ => ⟨⟨(-2), G_10, rfl, ⟨hB_G_10, hF⟩, wd_t ht hW⟩, hS.F ht⟩) hS.2.2 dX12_first_49
    · have c_14 : r_9.toInt ≠ 0 := xI_ne rfl rfl c_14
      refine lv_iload hx hb dX12_first_20 (lv_at hl 5 rfl) ?_
      refine lv_iconst (v := 0) hx hb dX12_first_22 (by decide) ?_
      refine lv_iload_n hx hb dX12_first_23 rfl (lv_at hl 1 rfl) ?_
      refine lv_iload_n hx hb dX12_first_24 rfl (lv_at hl 2 rfl) ?_
      refine lv_iadd hx hb dX12_first_25 ?_
      refine lv_topi (fun y_15 ey_15 => ?_)
      have ty_15 : y_15.toInt = p0.toInt + p1.toInt := xI_add rfl rfl ey_15 (by omega) (by omega)
      refine lv_iconst (v := 1) hx hb dX12_first_26 (by decide) ?_
      refine lv_isub hx hb dX12_first_27 ?_
      refine lv_topi (fun y_16 ey_16 => ?_)
      have ty_16 : y_16.toInt = y_15.toInt - 1 := xI_sub rfl rfl ey_16 (by omega) (by omega)
      have qc_17 : (0 : Int32).toInt = 0 := rfl
      refine S_calli (va_runS (As := [.int p4, .int 0, .int y_16]) (rest := []) ⟨hx, hb, hml, hown, hts⟩ (n_isIn l D k A a z G_10 p4 0 y_16 ) (va_cwS 3 hts (gd_S hgd m1781 m1782 m131 m1783) rfl rfl rfl (by decide +kernel) ⟨Nat.le_of_ble_eq_true rfl, Nat.le_of_ble_eq_true rfl⟩) (pre_S hW hB_G_10 hK hZ hS) rfl rfl hl.1 rfl (lv_room (Nat.le_of_ble_eq_true rfl)) dX12_first_28 ⟨Nat.le_of_ble_eq_true rfl, Nat.le_of_ble_eq_true rfl⟩) hS (fun r_18 G_19 H locs hpo hW hS => ?_)
      obtain ⟨hB_G_19, hq_20, f_22, hp_21⟩ := hpo
      have hF := hF.call hq_20 (by decide) (by decide)
      refine lv_if_eq (tgt := 47) hx hb dX12_first_31 (by decide) (fun c_23 => ?_) (fun c_23 => ?_)
      · have c_23 : r_18.toInt = 0 := xI_eq rfl rfl c_23
        refine lv_bipush (v := (-2)) hx hb dX12_first_47 (by decide) ?_
        exact W.iret (v := (-2)) hx hb hr (fun t ht _ => ⟨⟨(-2), G_19, rfl, ⟨hB_G_19, hF⟩, wd_t ht hW⟩, hS.F ht⟩) hS.2.2 dX12_first_49
      · have c_23 : r_18.toInt ≠ 0 := xI_ne rfl rfl c_23
        refine lv_iload_n hx hb dX12_first_34 rfl (lv_at hl 1 rfl) ?_
        refine lv_iload_n hx hb dX12_first_35 rfl (lv_at hl 2 rfl) ?_
        refine lv_iload_n hx hb dX12_first_36 rfl (lv_at hl 3 rfl) ?_
        refine lv_iload hx hb dX12_first_37 (lv_at hl 4 rfl) ?_
        refine lv_iload hx hb dX12_first_39 (lv_at hl 5 rfl) ?_
        refine S_calli (va_runS (As := [.int p0, .int p1, .int p2, .int p3, .int p4]) (rest := []) ⟨hx, hb, hml, hown, hts⟩ (n_firstOf l D k A a z G_19 p0 p1 p2 p3 p4 ⟨by omega, by omega⟩ ⟨by omega, by omega⟩ ⟨by omega, by omega⟩ ⟨by omega, by omega⟩ ⟨by omega, by omega⟩) (va_cwS 5 hts (gd_S hgd m1910 m1911 m131 m1912) rfl rfl rfl (by decide +kernel) ⟨Nat.le_of_ble_eq_true rfl, Nat.le_of_ble_eq_true rfl⟩) (pre_S hW hB_G_19 hK hZ hS) rfl rfl hl.1 rfl (lv_room (Nat.le_of_ble_eq_true rfl)) dX12_first_41 ⟨Nat.le_of_ble_eq_true rfl, Nat.le_of_ble_eq_true rfl⟩) hS (fun r_24 G_25 H locs hpo hW hS => ?_)
        obtain ⟨hB_G_25, hq_26⟩ := hpo
        have hF := hF.call hq_26 (by decide) (by decide)
        refine lv_goto (tgt := 49) hx hb dX12_first_44 (by decide) ?_
        exact W.iret (v := r_24) hx hb hr (fun t ht _ => ⟨⟨r_24, G_25, rfl, ⟨hB_G_25, hF⟩, wd_t ht hW⟩, hS.F ht⟩) hS.2.2 dX12_first_49

set_option maxHeartbeats 4000000 in
set_option maxRecDepth 100000 in
theorem n_beginOf (l : Launch) (D : va_G) (k : KT) (A : Nat → Prop) (a : Nat → Nat) (z : SK) (G : GS) (p0 : Int32) (p1 : Int32) (p2 : Int32) (p3 : Int32) (ha_p0 : 1 ≤ p0.toInt ∧ p0.toInt ≤ 60) (ha_p1 : 0 ≤ p1.toInt ∧ p1.toInt ≤ 9) (ha_p2 : 1 ≤ p2.toInt ∧ p2.toInt ≤ 12) (ha_p3 : 1 ≤ p3.toInt ∧ p3.toInt ≤ 99) : Met l yX12_beginOf (WS yX12_beginOf cX12_beginOf 6 (some .int)) ({ frames := 2, cells := 0, slots := 0, locals := 51 }) (va_Pc [.int p0, .int p1, .int p2, .int p3] (cW D k A a z G)) (va_Qi (fun (r : Int32) (G1 : GS) => Bd G1 ∧ Fr [] [] G G1) (fun (G1 : GS) t => Wd D k A a G1 t.heap) A) 0 0 A := by
  refine Met.ofW (cc := cX12_beginOf) (maxL := 6) (ret := (some .int)) (by decide) rfl ?_
  intro p e s m args below meth c s₁ B hml hv
  obtain ⟨rfl, hW, hB_G, hK, hZ⟩ := hv
  have hx := B.exec
  have hb := B.bytes
  have hr := B.returns
  have hts := atoms_spec (ws := WS yX12_beginOf cX12_beginOf 6 (some .int)) B.pre
  have hgd : ∀ w ∈ gd, w ∈ WS yX12_beginOf cX12_beginOf 6 (some .int) := fun w h => List.mem_cons_of_mem _ h
  have hg : ∀ w ∈ gd, w.before _ s = true := fun w h => hts w (hgd w h)
  have hown : s.vm.findClass RX12 = some m.cls := findClass_of_methodNamed B.named
  have hS : va_S A s.heap s.heap [] := va_S.rf
  have hF : Fr [] [] G G := Fr.rf
  have hl := lv_entry ([.int p0, .int p1, .int p2, .int p3]) (n := 6) (Nat.le_of_ble_eq_true rfl)
  rw [lg_entry_eq]
  generalize (lg_sl ([.int p0, .int p1, .int p2, .int p3]) ++ List.replicate (6 - (lg_sl ([.int p0, .int p1, .int p2, .int p3])).length) Slot.unset).toArray = ls at hl ⊢
  have hl : lv_has ls 6 [(0, .int p0), (1, .int p1), (2, .int p2), (3, .int p3)] := hl
  refine lv_iconst (v := 0) hx hb dX12_beginOf_0 (by decide) ?_
  refine lv_istore (lv' := [(4, .int 0), (0, .int p0), (1, .int p1), (2, .int p2), (3, .int p3)]) hx hb dX12_beginOf_1 hl (by decide) rfl (fun ls hl => ?_)
  refine lv_iconst (v := 0) hx hb dX12_beginOf_3 (by decide) ?_
  refine lv_istore (lv' := [(5, .int 0), (4, .int 0), (0, .int p0), (1, .int p1), (2, .int p2), (3, .int p3)]) hx hb dX12_beginOf_4 hl (by decide) rfl (fun ls hl => ?_)
  have qc_7 : (0 : Int32).toInt = 0 := rfl
  refine loop_N (Inv := fun n H locs ls => ∃ (G_1 : GS) (x_5 : Int32) (x_6 : Int32), (n : Int) = 69 - x_5.toInt ∧ (0 ≤ x_5.toInt ∧ x_5.toInt ≤ 69) ∧ Wd D k A a G_1 H ∧ Bd G_1 ∧ Fr [] [] G G_1 ∧ Fr [] [] G G_1 ∧ va_S A s.heap H locs ∧ lv_has ls 6 [(5, .int x_5), (4, .int x_6), (0, .int p0), (1, .int p1), (2, .int p2), (3, .int p3)]) (fun n_4 H locs ls ih_3 hI => ?_) (69 - 0 : Int).toNat ⟨G, 0, 0, (Int.toNat_of_nonneg (by omega)), ⟨by omega, by omega⟩, hW, hB_G, hF, Fr.rf, hS, lv_sub hl [0, 1, 2, 3, 4, 5] rfl⟩
  obtain ⟨G_1, x_5, x_6, hn_9, f_8, hW, hB_G_1, hF, hq_2, hS, hl⟩ := hI
  refine lv_iload hx hb dX12_beginOf_6 (lv_at hl 0 rfl) ?_
  refine lv_iload_n hx hb dX12_beginOf_8 rfl (lv_at hl 2 rfl) ?_
  refine lv_iload_n hx hb dX12_beginOf_9 rfl (lv_at hl 3 rfl) ?_
  refine lv_iadd hx hb dX12_beginOf_10 ?_
  refine lv_topi (fun y_10 ey_10 => ?_)
  have ty_10 : y_10.toInt = p0.toInt + p1.toInt := xI_add rfl rfl ey_10 (by omega) (by omega)
  refine lv_icmp_ge (tgt := 45) hx hb dX12_beginOf_11 (by decide) (fun c_11 => ?_) (fun c_11 => ?_)
  · have c_11 : y_10.toInt ≤ x_5.toInt := xI_le rfl rfl c_11
    refine lv_iload hx hb dX12_beginOf_45 (lv_at hl 1 rfl) ?_
    exact W.iret (v := x_6) hx hb hr (fun t ht _ => ⟨⟨x_6, G_1, rfl, ⟨hB_G_1, hF⟩, wd_t ht hW⟩, hS.F ht⟩) hS.2.2 dX12_beginOf_47
  · have c_11 : x_5.toInt < y_10.toInt := xI_nle rfl rfl c_11
    refine lv_iload hx hb dX12_beginOf_14 (lv_at hl 1 rfl) ?_
    refine lv_iload_n hx hb dX12_beginOf_16 rfl (lv_at hl 2 rfl) ?_
    refine lv_iload_n hx hb dX12_beginOf_17 rfl (lv_at hl 3 rfl) ?_
    refine lv_iload_n hx hb dX12_beginOf_18 rfl (lv_at hl 4 rfl) ?_
    refine lv_iload_n hx hb dX12_beginOf_19 rfl (lv_at hl 5 rfl) ?_
    refine lv_iload hx hb dX12_beginOf_20 (lv_at hl 0 rfl) ?_
    refine S_calli (va_runS (As := [.int p0, .int p1, .int p2, .int p3, .int x_5]) (rest := [.int x_6]) ⟨hx, hb, hml, hown, hts⟩ (n_firstOf l D k A a z G_1 p0 p1 p2 p3 x_5 ⟨by omega, by omega⟩ ⟨by omega, by omega⟩ ⟨by omega, by omega⟩ ⟨by omega, by omega⟩ ⟨by omega, by omega⟩) (va_cwS 5 hts (gd_S hgd m1910 m1911 m131 m1912) rfl rfl rfl (by decide +kernel) ⟨Nat.le_of_ble_eq_true rfl, Nat.le_of_ble_eq_true rfl⟩) (pre_S hW hB_G_1 hK hZ hS) rfl rfl hl.1 rfl (lv_room (Nat.le_of_ble_eq_true rfl)) dX12_beginOf_22 ⟨Nat.le_of_ble_eq_true rfl, Nat.le_of_ble_eq_true rfl⟩) hS (fun r_12 G_13 H locs hpo hW hS => ?_)
    obtain ⟨hB_G_13, hq_14⟩ := hpo
    have hF := hF.call hq_14 (by decide) (by decide)
    refine lv_if_ge (tgt := 32) hx hb dX12_beginOf_25 (by decide) (fun c_16 => ?_) (fun c_16 => ?_)
    · have c_16 : 0 ≤ r_12.toInt := xI_le rfl rfl c_16
      refine lv_iconst (v := 0) hx hb dX12_beginOf_32 (by decide) ?_
      have qc_17 : (0 : Int32).toInt = 0 := rfl
      refine S_calli (va_runS (As := [.int 0]) (rest := [.int x_6]) ⟨hx, hb, hml, hown, hts⟩ (n_truth l D k A a z G_13 0 ⟨by decide, by decide⟩) (va_cwS 1 hts (gd_S hgd m1788 m1789 m131 m1790) rfl rfl rfl (by decide +kernel) ⟨Nat.le_of_ble_eq_true rfl, Nat.le_of_ble_eq_true rfl⟩) (pre_S hW hB_G_13 hK hZ hS) rfl rfl hl.1 rfl (lv_room (Nat.le_of_ble_eq_true rfl)) dX12_beginOf_33 ⟨Nat.le_of_ble_eq_true rfl, Nat.le_of_ble_eq_true rfl⟩) hS (fun r_18 G_19 H locs hpo hW hS => ?_)
      obtain ⟨hB_G_19, hq_20, f_22, hp_21, -⟩ := hpo
      have hF := hF.call hq_20 (by decide) (by decide)
      refine lv_iadd hx hb dX12_beginOf_36 ?_
      refine lv_topi (fun y_23 ey_23 => ?_)
      refine lv_istore (lv' := [(4, .int y_23), (5, .int x_5), (0, .int p0), (1, .int p1), (2, .int p2), (3, .int p3)]) hx hb dX12_beginOf_37 hl (by decide) rfl (fun ls hl => ?_)
      obtain ⟨y_24, ey_24⟩ : ∃ q, q = x_5 + 1 := ⟨_, rfl⟩
      have ty_24 : y_24.toInt = x_5.toInt + 1 := xI_add rfl rfl ey_24 (by omega) (by omega)
      refine lv_iinc (v := y_24) (lv' := [(5, .int y_24), (4, .int y_23), (0, .int p0), (1, .int p1), (2, .int p2), (3, .int p3)]) hx hb dX12_beginOf_39 hl (k := 1) rfl (by rw [ey_24]; rfl) (by decide) rfl (fun ls hl => ?_)
      refine lv_goto (tgt := 6) hx hb dX12_beginOf_42 (by decide) ?_
      exact ih_3 (69 - y_24.toInt : Int).toNat (by omega) _ _ _ ⟨G_19, y_24, y_23, (Int.toNat_of_nonneg (by omega)), ⟨by omega, by omega⟩, hW, hB_G_19, hF, (((Fr.rf.call hq_2 (by decide) (by decide)).call hq_14 (by decide) (by decide)).call hq_20 (by decide) (by decide)), hS, lv_sub hl [0, 1, 2, 3, 4, 5] rfl⟩
    · have c_16 : r_12.toInt < 0 := xI_nle rfl rfl c_16
      refine lv_iconst (v := 1) hx hb dX12_beginOf_28 (by decide) ?_
      refine lv_goto (tgt := 33) hx hb dX12_beginOf_29 (by decide) ?_
      have qc_25 : (1 : Int32).toInt = 1 := rfl
      refine S_calli (va_runS (As := [.int 1]) (rest := [.int x_6]) ⟨hx, hb, hml, hown, hts⟩ (n_truth l D k A a z G_13 1 ⟨by decide, by decide⟩) (va_cwS 1 hts (gd_S hgd m1788 m1789 m131 m1790) rfl rfl rfl (by decide +kernel) ⟨Nat.le_of_ble_eq_true rfl, Nat.le_of_ble_eq_true rfl⟩) (pre_S hW hB_G_13 hK hZ hS) rfl rfl hl.1 rfl (lv_room (Nat.le_of_ble_eq_true rfl)) dX12_beginOf_33 ⟨Nat.le_of_ble_eq_true rfl, Nat.le_of_ble_eq_true rfl⟩) hS (fun r_26 G_27 H locs hpo hW hS => ?_)
      obtain ⟨hB_G_27, hq_28, f_30, hp_29, -⟩ := hpo
      have hF := hF.call hq_28 (by decide) (by decide)
      refine lv_iadd hx hb dX12_beginOf_36 ?_
      refine lv_topi (fun y_31 ey_31 => ?_)
      refine lv_istore (lv' := [(4, .int y_31), (5, .int x_5), (0, .int p0), (1, .int p1), (2, .int p2), (3, .int p3)]) hx hb dX12_beginOf_37 hl (by decide) rfl (fun ls hl => ?_)
      obtain ⟨y_32, ey_32⟩ : ∃ q, q = x_5 + 1 := ⟨_, rfl⟩
      have ty_32 : y_32.toInt = x_5.toInt + 1 := xI_add rfl rfl ey_32 (by omega) (by omega)
      refine lv_iinc (v := y_32) (lv' := [(5, .int y_32), (4, .int y_31), (0, .int p0), (1, .int p1), (2, .int p2), (3, .int p3)]) hx hb dX12_beginOf_39 hl (k := 1) rfl (by rw [ey_32]; rfl) (by decide) rfl (fun ls hl => ?_)
      refine lv_goto (tgt := 6) hx hb dX12_beginOf_42 (by decide) ?_
      exact ih_3 (69 - y_32.toInt : Int).toNat (by omega) _ _ _ ⟨G_27, y_32, y_31, (Int.toNat_of_nonneg (by omega)), ⟨by omega, by omega⟩, hW, hB_G_27, hF, (((Fr.rf.call hq_2 (by decide) (by decide)).call hq_14 (by decide) (by decide)).call hq_28 (by decide) (by decide)), hS, lv_sub hl [0, 1, 2, 3, 4, 5] rfl⟩

set_option maxHeartbeats 4000000 in
set_option maxRecDepth 100000 in
theorem n_begin (l : Launch) (D : va_G) (k : KT) (A : Nat → Prop) (a : Nat → Nat) (z : SK) (G : GS) (p0 : Int32) (p1 : Int32) (p2 : Int32) (p3 : Int32)  : Met l yX12_begin (WS yX12_begin cX12_begin 5 (some .int)) ({ frames := 3, cells := 0, slots := 0, locals := 76 }) (va_Pc [.ref (a 66), .int p0, .int p1, .int p2, .int p3] (cW D k A a z G)) (va_Qi (fun (r : Int32) (G1 : GS) => Bd G1 ∧ Fr [] [] G G1) (fun (G1 : GS) t => Wd D k A a G1 t.heap) A) 0 0 A := by
  refine Met.ofW (cc := cX12_begin) (maxL := 5) (ret := (some .int)) (by decide) rfl ?_
  intro p e s m args below meth c s₁ B hml hv
  obtain ⟨rfl, hW, hB_G, hK, hZ⟩ := hv
  have hx := B.exec
  have hb := B.bytes
  have hr := B.returns
  have hts := atoms_spec (ws := WS yX12_begin cX12_begin 5 (some .int)) B.pre
  have hgd : ∀ w ∈ gd, w ∈ WS yX12_begin cX12_begin 5 (some .int) := fun w h => List.mem_cons_of_mem _ h
  have hg : ∀ w ∈ gd, w.before _ s = true := fun w h => hts w (hgd w h)
  have hown : s.vm.findClass RX12 = some m.cls := findClass_of_methodNamed B.named
  have hS : va_S A s.heap s.heap [] := va_S.rf
  have hF : Fr [] [] G G := Fr.rf
  have hl := lv_entry ([.ref (a 66), .int p0, .int p1, .int p2, .int p3]) (n := 5) (Nat.le_of_ble_eq_true rfl)
  rw [lg_entry_eq]
  generalize (lg_sl ([.ref (a 66), .int p0, .int p1, .int p2, .int p3]) ++ List.replicate (5 - (lg_sl ([.ref (a 66), .int p0, .int p1, .int p2, .int p3])).length) Slot.unset).toArray = ls at hl ⊢
  have hl : lv_has ls 5 [(0, .ref (a 66)), (1, .int p0), (2, .int p1), (3, .int p2), (4, .int p3)] := hl
  refine lv_iload_n hx hb dX12_begin_0 rfl (lv_at hl 1 rfl) ?_
  refine lv_iload_n hx hb dX12_begin_1 rfl (lv_at hl 2 rfl) ?_
  refine lv_iload_n hx hb dX12_begin_2 rfl (lv_at hl 3 rfl) ?_
  refine S_calli (va_runS (As := [.int p0, .int p1, .int p2]) (rest := []) ⟨hx, hb, hml, hown, hts⟩ (n_areSlabs l D k A a z G p0 p1 p2 ) (va_cwS 3 hts (gd_S hgd m1907 m1908 m131 m1909) rfl rfl rfl (by decide +kernel) ⟨Nat.le_of_ble_eq_true rfl, Nat.le_of_ble_eq_true rfl⟩) (pre_S hW hB_G hK hZ hS) rfl rfl hl.1 rfl (lv_room (Nat.le_of_ble_eq_true rfl)) dX12_begin_3 ⟨Nat.le_of_ble_eq_true rfl, Nat.le_of_ble_eq_true rfl⟩) hS (fun r_1 G_2 H locs hpo hW hS => ?_)
  obtain ⟨hB_G_2, hq_3, f_5, hp_4⟩ := hpo
  have hF := hF.call hq_3 (by decide) (by decide)
  refine lv_if_eq (tgt := 31) hx hb dX12_begin_6 (by decide) (fun c_6 => ?_) (fun c_6 => ?_)
  · have c_6 : r_1.toInt = 0 := xI_eq rfl rfl c_6
    refine lv_iconst (v := (-1)) hx hb dX12_begin_31 (by decide) ?_
    exact W.iret (v := (-1)) hx hb hr (fun t ht _ => ⟨⟨(-1), G_2, rfl, ⟨hB_G_2, hF⟩, wd_t ht hW⟩, hS.F ht⟩) hS.2.2 dX12_begin_32
  · have c_6 : r_1.toInt ≠ 0 := xI_ne rfl rfl c_6
    refine lv_iload hx hb dX12_begin_9 (lv_at hl 4 rfl) ?_
    refine lv_iconst (v := 1) hx hb dX12_begin_11 (by decide) ?_
    refine lv_bipush (v := 99) hx hb dX12_begin_12 (by decide) ?_
    have qc_7 : (1 : Int32).toInt = 1 := rfl
    have qc_8 : (99 : Int32).toInt = 99 := rfl
    refine S_calli (va_runS (As := [.int p3, .int 1, .int 99]) (rest := []) ⟨hx, hb, hml, hown, hts⟩ (n_isIn l D k A a z G_2 p3 1 99 ) (va_cwS 3 hts (gd_S hgd m1781 m1782 m131 m1783) rfl rfl rfl (by decide +kernel) ⟨Nat.le_of_ble_eq_true rfl, Nat.le_of_ble_eq_true rfl⟩) (pre_S hW hB_G_2 hK hZ hS) rfl rfl hl.1 rfl (lv_room (Nat.le_of_ble_eq_true rfl)) dX12_begin_14 ⟨Nat.le_of_ble_eq_true rfl, Nat.le_of_ble_eq_true rfl⟩) hS (fun r_9 G_10 H locs hpo hW hS => ?_)
    obtain ⟨hB_G_10, hq_11, f_13, hp_12⟩ := hpo
    have hF := hF.call hq_11 (by decide) (by decide)
    refine lv_if_eq (tgt := 31) hx hb dX12_begin_17 (by decide) (fun c_14 => ?_) (fun c_14 => ?_)
    · have c_14 : r_9.toInt = 0 := xI_eq rfl rfl c_14
      refine lv_iconst (v := (-1)) hx hb dX12_begin_31 (by decide) ?_
      exact W.iret (v := (-1)) hx hb hr (fun t ht _ => ⟨⟨(-1), G_10, rfl, ⟨hB_G_10, hF⟩, wd_t ht hW⟩, hS.F ht⟩) hS.2.2 dX12_begin_32
    · have c_14 : r_9.toInt ≠ 0 := xI_ne rfl rfl c_14
      refine lv_iload_n hx hb dX12_begin_20 rfl (lv_at hl 1 rfl) ?_
      refine lv_iload_n hx hb dX12_begin_21 rfl (lv_at hl 2 rfl) ?_
      refine lv_iload_n hx hb dX12_begin_22 rfl (lv_at hl 3 rfl) ?_
      refine lv_iload hx hb dX12_begin_23 (lv_at hl 4 rfl) ?_
      refine S_calli (va_runS (As := [.int p0, .int p1, .int p2, .int p3]) (rest := []) ⟨hx, hb, hml, hown, hts⟩ (n_beginOf l D k A a z G_10 p0 p1 p2 p3 ⟨by omega, by omega⟩ ⟨by omega, by omega⟩ ⟨by omega, by omega⟩ ⟨by omega, by omega⟩) (va_cwS 4 hts (gd_S hgd m1920 m1921 m131 m1922) rfl rfl rfl (by decide +kernel) ⟨Nat.le_of_ble_eq_true rfl, Nat.le_of_ble_eq_true rfl⟩) (pre_S hW hB_G_10 hK hZ hS) rfl rfl hl.1 rfl (lv_room (Nat.le_of_ble_eq_true rfl)) dX12_begin_25 ⟨Nat.le_of_ble_eq_true rfl, Nat.le_of_ble_eq_true rfl⟩) hS (fun r_15 G_16 H locs hpo hW hS => ?_)
      obtain ⟨hB_G_16, hq_17⟩ := hpo
      have hF := hF.call hq_17 (by decide) (by decide)
      refine lv_goto (tgt := 32) hx hb dX12_begin_28 (by decide) ?_
      exact W.iret (v := r_15) hx hb hr (fun t ht _ => ⟨⟨r_15, G_16, rfl, ⟨hB_G_16, hF⟩, wd_t ht hW⟩, hS.F ht⟩) hS.2.2 dX12_begin_32

set_option maxHeartbeats 4000000 in
set_option maxRecDepth 100000 in
theorem n_suits (l : Launch) (D : va_G) (k : KT) (A : Nat → Prop) (a : Nat → Nat) (z : SK) (G : GS) (p0 : Int32) (p1 : Int32) (p2 : Int32) (p3 : Int32) (p4 : Int32)  : Met l yX12_suits (WS yX12_suits cX12_suits 9 (some .long)) ({ frames := 3, cells := 0, slots := 0, locals := 76 }) (va_Pc [.ref (a 66), .int p0, .int p1, .int p2, .int p3, .int p4] (cW D k A a z G)) (va_Ql (fun (r : Int64) (G1 : GS) => Bd G1 ∧ Fr [] [] G G1) (fun (G1 : GS) t => Wd D k A a G1 t.heap) A) 0 0 A := by
  refine Met.ofW (cc := cX12_suits) (maxL := 9) (ret := (some .long)) (by decide) rfl ?_
  intro p e s m args below meth c s₁ B hml hv
  obtain ⟨rfl, hW, hB_G, hK, hZ⟩ := hv
  have hx := B.exec
  have hb := B.bytes
  have hr := B.returns
  have hts := atoms_spec (ws := WS yX12_suits cX12_suits 9 (some .long)) B.pre
  have hgd : ∀ w ∈ gd, w ∈ WS yX12_suits cX12_suits 9 (some .long) := fun w h => List.mem_cons_of_mem _ h
  have hg : ∀ w ∈ gd, w.before _ s = true := fun w h => hts w (hgd w h)
  have hown : s.vm.findClass RX12 = some m.cls := findClass_of_methodNamed B.named
  have hS : va_S A s.heap s.heap [] := va_S.rf
  have hF : Fr [] [] G G := Fr.rf
  have hl := lv_entry ([.ref (a 66), .int p0, .int p1, .int p2, .int p3, .int p4]) (n := 9) (Nat.le_of_ble_eq_true rfl)
  rw [lg_entry_eq]
  generalize (lg_sl ([.ref (a 66), .int p0, .int p1, .int p2, .int p3, .int p4]) ++ List.replicate (9 - (lg_sl ([.ref (a 66), .int p0, .int p1, .int p2, .int p3, .int p4])).length) Slot.unset).toArray = ls at hl ⊢
  have hl : lv_has ls 9 [(0, .ref (a 66)), (1, .int p0), (2, .int p1), (3, .int p2), (4, .int p3), (5, .int p4)] := hl
  refine lv_iload_n hx hb dX12_suits_0 rfl (lv_at hl 1 rfl) ?_
  refine lv_iload_n hx hb dX12_suits_1 rfl (lv_at hl 2 rfl) ?_
  refine lv_iload hx hb dX12_suits_2 (lv_at hl 5 rfl) ?_
  refine S_calli (va_runS (As := [.int p0, .int p1, .int p4]) (rest := []) ⟨hx, hb, hml, hown, hts⟩ (n_areSlabs l D k A a z G p0 p1 p4 ) (va_cwS 3 hts (gd_S hgd m1907 m1908 m131 m1909) rfl rfl rfl (by decide +kernel) ⟨Nat.le_of_ble_eq_true rfl, Nat.le_of_ble_eq_true rfl⟩) (pre_S hW hB_G hK hZ hS) rfl rfl hl.1 rfl (lv_room (Nat.le_of_ble_eq_true rfl)) dX12_suits_4 ⟨Nat.le_of_ble_eq_true rfl, Nat.le_of_ble_eq_true rfl⟩) hS (fun r_1 G_2 H locs hpo hW hS => ?_)
  obtain ⟨hB_G_2, hq_3, f_5, hp_4⟩ := hpo
  have hF := hF.call hq_3 (by decide) (by decide)
  refine lv_if_eq (tgt := 21) hx hb dX12_suits_7 (by decide) (fun c_6 => ?_) (fun c_6 => ?_)
  · have c_6 : r_1.toInt = 0 := xI_eq rfl rfl c_6
    refine lv_ldc2 (v := (-1)) hx hb hown (hg (Cond.constantLong RX12 517 (-1)) m1874) dX12_suits_21 ?_
    exact W.lret (v := (-1)) hx hb hr (fun t ht _ => ⟨⟨(-1), G_2, rfl, ⟨hB_G_2, hF⟩, wd_t ht hW⟩, hS.F ht⟩) hS.2.2 dX12_suits_24
  · have c_6 : r_1.toInt ≠ 0 := xI_ne rfl rfl c_6
    refine lv_iload_n hx hb dX12_suits_10 rfl (lv_at hl 3 rfl) ?_
    refine lv_iload hx hb dX12_suits_11 (lv_at hl 4 rfl) ?_
    refine lv_iload hx hb dX12_suits_13 (lv_at hl 5 rfl) ?_
    refine S_calli (va_runS (As := [.int p2, .int p3, .int p4]) (rest := []) ⟨hx, hb, hml, hown, hts⟩ (n_areSlabs l D k A a z G_2 p2 p3 p4 ) (va_cwS 3 hts (gd_S hgd m1907 m1908 m131 m1909) rfl rfl rfl (by decide +kernel) ⟨Nat.le_of_ble_eq_true rfl, Nat.le_of_ble_eq_true rfl⟩) (pre_S hW hB_G_2 hK hZ hS) rfl rfl hl.1 rfl (lv_room (Nat.le_of_ble_eq_true rfl)) dX12_suits_15 ⟨Nat.le_of_ble_eq_true rfl, Nat.le_of_ble_eq_true rfl⟩) hS (fun r_7 G_8 H locs hpo hW hS => ?_)
    obtain ⟨hB_G_8, hq_9, f_11, hp_10⟩ := hpo
    have hF := hF.call hq_9 (by decide) (by decide)
    refine lv_if_ne (tgt := 25) hx hb dX12_suits_18 (by decide) (fun c_12 => ?_) (fun c_12 => ?_)
    · have c_12 : r_7.toInt ≠ 0 := xI_ne rfl rfl c_12
      refine lv_lconst (v := 0) hx hb dX12_suits_25 (by decide) ?_
      refine lv_lstore (lv' := [(6, .long 0), (0, .ref (a 66)), (1, .int p0), (2, .int p1), (3, .int p2), (4, .int p3), (5, .int p4)]) hx hb dX12_suits_26 hl (by decide) rfl (fun ls hl => ?_)
      refine lv_iconst (v := 1) hx hb dX12_suits_28 (by decide) ?_
      refine lv_istore (lv' := [(8, .int 1), (6, .long 0), (0, .ref (a 66)), (1, .int p0), (2, .int p1), (3, .int p2), (4, .int p3), (5, .int p4)]) hx hb dX12_suits_29 hl (by decide) rfl (fun ls hl => ?_)
      have qc_19 : (1 : Int32).toInt = 1 := rfl
      refine loop_N (Inv := fun n H locs ls => ∃ (G_13 : GS) (x_17 : Int32) (x_18 : Int64), (n : Int) = 61 - x_17.toInt ∧ (1 ≤ x_17.toInt ∧ x_17.toInt ≤ 61) ∧ Wd D k A a G_13 H ∧ Bd G_13 ∧ Fr [] [] G G_13 ∧ Fr [] [] G_8 G_13 ∧ va_S A s.heap H locs ∧ lv_has ls 9 [(8, .int x_17), (6, .long x_18), (1, .int p0), (2, .int p1), (3, .int p2), (4, .int p3), (5, .int p4)]) (fun n_16 H locs ls ih_15 hI => ?_) (61 - 1 : Int).toNat ⟨G_8, 1, 0, (Int.toNat_of_nonneg (by omega)), ⟨by omega, by omega⟩, hW, hB_G_8, hF, Fr.rf, hS, lv_sub hl [0, 1, 3, 4, 5, 6, 7] rfl⟩
      obtain ⟨G_13, x_17, x_18, hn_21, f_20, hW, hB_G_13, hF, hq_14, hS, hl⟩ := hI
      refine lv_iload hx hb dX12_suits_31 (lv_at hl 0 rfl) ?_
      refine lv_bipush (v := 60) hx hb dX12_suits_33 (by decide) ?_
      refine lv_icmp_gt (tgt := 80) hx hb dX12_suits_35 (by decide) (fun c_22 => ?_) (fun c_22 => ?_)
      · have c_22 : 60 < x_17.toInt := xI_lt rfl rfl c_22
        refine lv_lload hx hb dX12_suits_80 (lv_at hl 1 rfl) ?_
        exact W.lret (v := x_18) hx hb hr (fun t ht _ => ⟨⟨x_18, G_13, rfl, ⟨hB_G_13, hF⟩, wd_t ht hW⟩, hS.F ht⟩) hS.2.2 dX12_suits_82
      · have c_22 : x_17.toInt ≤ 60 := xI_nlt rfl rfl c_22
        refine lv_iload_n hx hb dX12_suits_38 rfl (lv_at hl 2 rfl) ?_
        refine lv_iload_n hx hb dX12_suits_39 rfl (lv_at hl 3 rfl) ?_
        refine lv_iload hx hb dX12_suits_40 (lv_at hl 6 rfl) ?_
        refine lv_iload hx hb dX12_suits_42 (lv_at hl 0 rfl) ?_
        refine S_calli (va_runS (As := [.int p0, .int p1, .int p4, .int x_17]) (rest := []) ⟨hx, hb, hml, hown, hts⟩ (n_beginOf l D k A a z G_13 p0 p1 p4 x_17 ⟨by omega, by omega⟩ ⟨by omega, by omega⟩ ⟨by omega, by omega⟩ ⟨by omega, by omega⟩) (va_cwS 4 hts (gd_S hgd m1920 m1921 m131 m1922) rfl rfl rfl (by decide +kernel) ⟨Nat.le_of_ble_eq_true rfl, Nat.le_of_ble_eq_true rfl⟩) (pre_S hW hB_G_13 hK hZ hS) rfl rfl hl.1 rfl (lv_room (Nat.le_of_ble_eq_true rfl)) dX12_suits_44 ⟨Nat.le_of_ble_eq_true rfl, Nat.le_of_ble_eq_true rfl⟩) hS (fun r_23 G_24 H locs hpo hW hS => ?_)
        obtain ⟨hB_G_24, hq_25⟩ := hpo
        have hF := hF.call hq_25 (by decide) (by decide)
        refine lv_if_le (tgt := 74) hx hb dX12_suits_47 (by decide) (fun c_27 => ?_) (fun c_27 => ?_)
        · have c_27 : r_23.toInt ≤ 0 := xI_le rfl rfl c_27
          obtain ⟨y_28, ey_28⟩ : ∃ q, q = x_17 + 1 := ⟨_, rfl⟩
          have ty_28 : y_28.toInt = x_17.toInt + 1 := xI_add rfl rfl ey_28 (by omega) (by omega)
          refine lv_iinc (v := y_28) (lv' := [(8, .int y_28), (6, .long x_18), (1, .int p0), (2, .int p1), (3, .int p2), (4, .int p3), (5, .int p4)]) hx hb dX12_suits_74 hl (k := 0) rfl (by rw [ey_28]; rfl) (by decide) rfl (fun ls hl => ?_)
          refine lv_goto (tgt := 31) hx hb dX12_suits_77 (by decide) ?_
          exact ih_15 (61 - y_28.toInt : Int).toNat (by omega) _ _ _ ⟨G_24, y_28, x_18, (Int.toNat_of_nonneg (by omega)), ⟨by omega, by omega⟩, hW, hB_G_24, hF, ((Fr.rf.call hq_14 (by decide) (by decide)).call hq_25 (by decide) (by decide)), hS, lv_sub hl [0, 1, 2, 3, 4, 5, 6] rfl⟩
        · have c_27 : 0 < r_23.toInt := xI_nle rfl rfl c_27
          refine lv_iload_n hx hb dX12_suits_50 rfl (lv_at hl 4 rfl) ?_
          refine lv_iload hx hb dX12_suits_51 (lv_at hl 5 rfl) ?_
          refine lv_iload hx hb dX12_suits_53 (lv_at hl 6 rfl) ?_
          refine lv_iload hx hb dX12_suits_55 (lv_at hl 0 rfl) ?_
          refine S_calli (va_runS (As := [.int p2, .int p3, .int p4, .int x_17]) (rest := []) ⟨hx, hb, hml, hown, hts⟩ (n_beginOf l D k A a z G_24 p2 p3 p4 x_17 ⟨by omega, by omega⟩ ⟨by omega, by omega⟩ ⟨by omega, by omega⟩ ⟨by omega, by omega⟩) (va_cwS 4 hts (gd_S hgd m1920 m1921 m131 m1922) rfl rfl rfl (by decide +kernel) ⟨Nat.le_of_ble_eq_true rfl, Nat.le_of_ble_eq_true rfl⟩) (pre_S hW hB_G_24 hK hZ hS) rfl rfl hl.1 rfl (lv_room (Nat.le_of_ble_eq_true rfl)) dX12_suits_57 ⟨Nat.le_of_ble_eq_true rfl, Nat.le_of_ble_eq_true rfl⟩) hS (fun r_29 G_30 H locs hpo hW hS => ?_)
          obtain ⟨hB_G_30, hq_31⟩ := hpo
          have hF := hF.call hq_31 (by decide) (by decide)
          refine lv_if_le (tgt := 74) hx hb dX12_suits_60 (by decide) (fun c_33 => ?_) (fun c_33 => ?_)
          · have c_33 : r_29.toInt ≤ 0 := xI_le rfl rfl c_33
            obtain ⟨y_34, ey_34⟩ : ∃ q, q = x_17 + 1 := ⟨_, rfl⟩
            have ty_34 : y_34.toInt = x_17.toInt + 1 := xI_add rfl rfl ey_34 (by omega) (by omega)
            refine lv_iinc (v := y_34) (lv' := [(8, .int y_34), (6, .long x_18), (1, .int p0), (2, .int p1), (3, .int p2), (4, .int p3), (5, .int p4)]) hx hb dX12_suits_74 hl (k := 0) rfl (by rw [ey_34]; rfl) (by decide) rfl (fun ls hl => ?_)
            refine lv_goto (tgt := 31) hx hb dX12_suits_77 (by decide) ?_
            exact ih_15 (61 - y_34.toInt : Int).toNat (by omega) _ _ _ ⟨G_30, y_34, x_18, (Int.toNat_of_nonneg (by omega)), ⟨by omega, by omega⟩, hW, hB_G_30, hF, (((Fr.rf.call hq_14 (by decide) (by decide)).call hq_25 (by decide) (by decide)).call hq_31 (by decide) (by decide)), hS, lv_sub hl [0, 1, 2, 3, 4, 5, 6] rfl⟩
          · have c_33 : 0 < r_29.toInt := xI_nle rfl rfl c_33
            refine lv_lload hx hb dX12_suits_63 (lv_at hl 1 rfl) ?_
            refine lv_lconst (v := 1) hx hb dX12_suits_65 (by decide) ?_
            refine lv_iload hx hb dX12_suits_66 (lv_at hl 0 rfl) ?_
            refine lv_iconst (v := 1) hx hb dX12_suits_68 (by decide) ?_
            refine lv_isub hx hb dX12_suits_69 ?_
            refine lv_topi (fun y_35 ey_35 => ?_)
            have ty_35 : y_35.toInt = x_17.toInt - 1 := xI_sub rfl rfl ey_35 (by omega) (by omega)
            refine lv_lshl hx hb dX12_suits_70 rfl ?_
            refine lv_topl (fun y_36 ey_36 => ?_)
            refine lv_lor hx hb dX12_suits_71 ?_
            refine lv_topl (fun y_37 ey_37 => ?_)
            refine lv_lstore (lv' := [(6, .long y_37), (8, .int x_17), (1, .int p0), (2, .int p1), (3, .int p2), (4, .int p3), (5, .int p4)]) hx hb dX12_suits_72 hl (by decide) rfl (fun ls hl => ?_)
            obtain ⟨y_38, ey_38⟩ : ∃ q, q = x_17 + 1 := ⟨_, rfl⟩
            have ty_38 : y_38.toInt = x_17.toInt + 1 := xI_add rfl rfl ey_38 (by omega) (by omega)
            refine lv_iinc (v := y_38) (lv' := [(8, .int y_38), (6, .long y_37), (1, .int p0), (2, .int p1), (3, .int p2), (4, .int p3), (5, .int p4)]) hx hb dX12_suits_74 hl (k := 1) rfl (by rw [ey_38]; rfl) (by decide) rfl (fun ls hl => ?_)
            refine lv_goto (tgt := 31) hx hb dX12_suits_77 (by decide) ?_
            exact ih_15 (61 - y_38.toInt : Int).toNat (by omega) _ _ _ ⟨G_30, y_38, y_37, (Int.toNat_of_nonneg (by omega)), ⟨by omega, by omega⟩, hW, hB_G_30, hF, (((Fr.rf.call hq_14 (by decide) (by decide)).call hq_25 (by decide) (by decide)).call hq_31 (by decide) (by decide)), hS, lv_sub hl [0, 1, 2, 3, 4, 5, 6] rfl⟩
    · have c_12 : r_7.toInt = 0 := xI_eq rfl rfl c_12
      refine lv_ldc2 (v := (-1)) hx hb hown (hg (Cond.constantLong RX12 517 (-1)) m1874) dX12_suits_21 ?_
      exact W.lret (v := (-1)) hx hb hr (fun t ht _ => ⟨⟨(-1), G_8, rfl, ⟨hB_G_8, hF⟩, wd_t ht hW⟩, hS.F ht⟩) hS.2.2 dX12_suits_24
