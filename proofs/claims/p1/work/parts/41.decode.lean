theorem dX11_begin_0 : decode cX11_begin 0 = .ok (.iload_n 1, 1) := by decide +kernel
theorem dX11_begin_1 : decode cX11_begin 1 = .ok (.iload_n 2, 1) := by decide +kernel
theorem dX11_begin_2 : decode cX11_begin 2 = .ok (.iload_n 3, 1) := by decide +kernel
theorem dX11_begin_3 : decode cX11_begin 3 = .ok (.invokestatic 194, 3) := by decide +kernel
theorem dX11_begin_6 : decode cX11_begin 6 = .ok (.ifCond .eq 16, 3) := by decide +kernel
theorem dX11_begin_9 : decode cX11_begin 9 = .ok (.iload 4, 2) := by decide +kernel
theorem dX11_begin_11 : decode cX11_begin 11 = .ok (.iconst 1, 1) := by decide +kernel
theorem dX11_begin_12 : decode cX11_begin 12 = .ok (.if_icmp .lt 10, 3) := by decide +kernel
theorem dX11_begin_15 : decode cX11_begin 15 = .ok (.iload 4, 2) := by decide +kernel
theorem dX11_begin_17 : decode cX11_begin 17 = .ok (.bipush 99, 2) := by decide +kernel
theorem dX11_begin_19 : decode cX11_begin 19 = .ok (.if_icmp .le 5, 3) := by decide +kernel
theorem dX11_begin_22 : decode cX11_begin 22 = .ok (.iconst (-1), 1) := by decide +kernel
theorem dX11_begin_23 : decode cX11_begin 23 = .ok (.ireturn, 1) := by decide +kernel
theorem dX11_begin_24 : decode cX11_begin 24 = .ok (.iload_n 1, 1) := by decide +kernel
theorem dX11_begin_25 : decode cX11_begin 25 = .ok (.iload_n 2, 1) := by decide +kernel
theorem dX11_begin_26 : decode cX11_begin 26 = .ok (.iload_n 3, 1) := by decide +kernel
theorem dX11_begin_27 : decode cX11_begin 27 = .ok (.iload 4, 2) := by decide +kernel
theorem dX11_begin_29 : decode cX11_begin 29 = .ok (.invokestatic 197, 3) := by decide +kernel
theorem dX11_begin_32 : decode cX11_begin 32 = .ok (.ireturn, 1) := by decide +kernel
theorem dX11_beginnings_0 : decode cX11_beginnings 0 = .ok (.iload_n 0, 1) := by decide +kernel
theorem dX11_beginnings_1 : decode cX11_beginnings 1 = .ok (.iload_n 1, 1) := by decide +kernel
theorem dX11_beginnings_2 : decode cX11_beginnings 2 = .ok (.iadd, 1) := by decide +kernel
theorem dX11_beginnings_3 : decode cX11_beginnings 3 = .ok (.istore 4, 2) := by decide +kernel
theorem dX11_beginnings_5 : decode cX11_beginnings 5 = .ok (.iload 4, 2) := by decide +kernel
theorem dX11_beginnings_7 : decode cX11_beginnings 7 = .ok (.i2l, 1) := by decide +kernel
theorem dX11_beginnings_8 : decode cX11_beginnings 8 = .ok (.iload_n 3, 1) := by decide +kernel
theorem dX11_beginnings_9 : decode cX11_beginnings 9 = .ok (.i2l, 1) := by decide +kernel
theorem dX11_beginnings_10 : decode cX11_beginnings 10 = .ok (.invokestatic 295, 3) := by decide +kernel
theorem dX11_beginnings_13 : decode cX11_beginnings 13 = .ok (.l2i, 1) := by decide +kernel
theorem dX11_beginnings_14 : decode cX11_beginnings 14 = .ok (.istore 5, 2) := by decide +kernel
theorem dX11_beginnings_16 : decode cX11_beginnings 16 = .ok (.iload_n 1, 1) := by decide +kernel
theorem dX11_beginnings_17 : decode cX11_beginnings 17 = .ok (.ifCond .eq 8, 3) := by decide +kernel
theorem dX11_beginnings_20 : decode cX11_beginnings 20 = .ok (.iload 5, 2) := by decide +kernel
theorem dX11_beginnings_22 : decode cX11_beginnings 22 = .ok (.ifCond .ne 6, 3) := by decide +kernel
theorem dX11_beginnings_25 : decode cX11_beginnings 25 = .ok (.iload 4, 2) := by decide +kernel
theorem dX11_beginnings_27 : decode cX11_beginnings 27 = .ok (.ireturn, 1) := by decide +kernel
theorem dX11_beginnings_28 : decode cX11_beginnings 28 = .ok (.iconst 0, 1) := by decide +kernel
theorem dX11_beginnings_29 : decode cX11_beginnings 29 = .ok (.iload 5, 2) := by decide +kernel
theorem dX11_beginnings_31 : decode cX11_beginnings 31 = .ok (.iload_n 1, 1) := by decide +kernel
theorem dX11_beginnings_32 : decode cX11_beginnings 32 = .ok (.isub, 1) := by decide +kernel
theorem dX11_beginnings_33 : decode cX11_beginnings 33 = .ok (.iload_n 2, 1) := by decide +kernel
theorem dX11_beginnings_34 : decode cX11_beginnings 34 = .ok (.isub, 1) := by decide +kernel
theorem dX11_beginnings_35 : decode cX11_beginnings 35 = .ok (.iconst 1, 1) := by decide +kernel
theorem dX11_beginnings_36 : decode cX11_beginnings 36 = .ok (.iadd, 1) := by decide +kernel
theorem dX11_beginnings_37 : decode cX11_beginnings 37 = .ok (.invokestatic 368, 3) := by decide +kernel
theorem dX11_beginnings_40 : decode cX11_beginnings 40 = .ok (.iload 4, 2) := by decide +kernel
theorem dX11_beginnings_42 : decode cX11_beginnings 42 = .ok (.iload 5, 2) := by decide +kernel
theorem dX11_beginnings_44 : decode cX11_beginnings 44 = .ok (.idiv, 1) := by decide +kernel
theorem dX11_beginnings_45 : decode cX11_beginnings 45 = .ok (.imul, 1) := by decide +kernel
theorem dX11_beginnings_46 : decode cX11_beginnings 46 = .ok (.ireturn, 1) := by decide +kernel
theorem dX11_commonDivisor_0 : decode cX11_commonDivisor 0 = .ok (.iconst 0, 1) := by decide +kernel
theorem dX11_commonDivisor_1 : decode cX11_commonDivisor 1 = .ok (.istore 4, 2) := by decide +kernel
theorem dX11_commonDivisor_3 : decode cX11_commonDivisor 3 = .ok (.iload 4, 2) := by decide +kernel
theorem dX11_commonDivisor_5 : decode cX11_commonDivisor 5 = .ok (.sipush 200, 3) := by decide +kernel
theorem dX11_commonDivisor_8 : decode cX11_commonDivisor 8 = .ok (.if_icmp .ge 25, 3) := by decide +kernel
theorem dX11_commonDivisor_11 : decode cX11_commonDivisor 11 = .ok (.lload_n 2, 1) := by decide +kernel
theorem dX11_commonDivisor_12 : decode cX11_commonDivisor 12 = .ok (.lconst 0, 1) := by decide +kernel
theorem dX11_commonDivisor_13 : decode cX11_commonDivisor 13 = .ok (.lcmp, 1) := by decide +kernel
theorem dX11_commonDivisor_14 : decode cX11_commonDivisor 14 = .ok (.ifCond .eq 19, 3) := by decide +kernel
theorem dX11_commonDivisor_17 : decode cX11_commonDivisor 17 = .ok (.lload_n 0, 1) := by decide +kernel
theorem dX11_commonDivisor_18 : decode cX11_commonDivisor 18 = .ok (.lload_n 2, 1) := by decide +kernel
theorem dX11_commonDivisor_19 : decode cX11_commonDivisor 19 = .ok (.lrem, 1) := by decide +kernel
theorem dX11_commonDivisor_20 : decode cX11_commonDivisor 20 = .ok (.lstore 5, 2) := by decide +kernel
theorem dX11_commonDivisor_22 : decode cX11_commonDivisor 22 = .ok (.lload_n 2, 1) := by decide +kernel
theorem dX11_commonDivisor_23 : decode cX11_commonDivisor 23 = .ok (.lstore_n 0, 1) := by decide +kernel
theorem dX11_commonDivisor_24 : decode cX11_commonDivisor 24 = .ok (.lload 5, 2) := by decide +kernel
theorem dX11_commonDivisor_26 : decode cX11_commonDivisor 26 = .ok (.lstore_n 2, 1) := by decide +kernel
theorem dX11_commonDivisor_27 : decode cX11_commonDivisor 27 = .ok (.iinc 4 1, 3) := by decide +kernel
theorem dX11_commonDivisor_30 : decode cX11_commonDivisor 30 = .ok (.goto (-27), 3) := by decide +kernel
theorem dX11_commonDivisor_33 : decode cX11_commonDivisor 33 = .ok (.lload_n 0, 1) := by decide +kernel
theorem dX11_commonDivisor_34 : decode cX11_commonDivisor 34 = .ok (.lreturn, 1) := by decide +kernel
theorem dX11_first_0 : decode cX11_first 0 = .ok (.iload_n 1, 1) := by decide +kernel
theorem dX11_first_1 : decode cX11_first 1 = .ok (.iload_n 2, 1) := by decide +kernel
theorem dX11_first_2 : decode cX11_first 2 = .ok (.iload_n 3, 1) := by decide +kernel
theorem dX11_first_3 : decode cX11_first 3 = .ok (.invokestatic 194, 3) := by decide +kernel
theorem dX11_first_6 : decode cX11_first 6 = .ok (.ifCond .eq 29, 3) := by decide +kernel
theorem dX11_first_9 : decode cX11_first 9 = .ok (.iload 4, 2) := by decide +kernel
theorem dX11_first_11 : decode cX11_first 11 = .ok (.iconst 1, 1) := by decide +kernel
theorem dX11_first_12 : decode cX11_first 12 = .ok (.if_icmp .lt 23, 3) := by decide +kernel
theorem dX11_first_15 : decode cX11_first 15 = .ok (.iload 4, 2) := by decide +kernel
theorem dX11_first_17 : decode cX11_first 17 = .ok (.bipush 99, 2) := by decide +kernel
theorem dX11_first_19 : decode cX11_first 19 = .ok (.if_icmp .gt 16, 3) := by decide +kernel
theorem dX11_first_22 : decode cX11_first 22 = .ok (.iload 5, 2) := by decide +kernel
theorem dX11_first_24 : decode cX11_first 24 = .ok (.ifCond .lt 11, 3) := by decide +kernel
theorem dX11_first_27 : decode cX11_first 27 = .ok (.iload 5, 2) := by decide +kernel
theorem dX11_first_29 : decode cX11_first 29 = .ok (.iload_n 1, 1) := by decide +kernel
theorem dX11_first_30 : decode cX11_first 30 = .ok (.iload_n 2, 1) := by decide +kernel
theorem dX11_first_31 : decode cX11_first 31 = .ok (.iadd, 1) := by decide +kernel
theorem dX11_first_32 : decode cX11_first 32 = .ok (.if_icmp .lt 6, 3) := by decide +kernel
theorem dX11_first_35 : decode cX11_first 35 = .ok (.bipush (-2), 2) := by decide +kernel
theorem dX11_first_37 : decode cX11_first 37 = .ok (.ireturn, 1) := by decide +kernel
theorem dX11_first_38 : decode cX11_first 38 = .ok (.iload_n 1, 1) := by decide +kernel
theorem dX11_first_39 : decode cX11_first 39 = .ok (.iload_n 2, 1) := by decide +kernel
theorem dX11_first_40 : decode cX11_first 40 = .ok (.iadd, 1) := by decide +kernel
theorem dX11_first_41 : decode cX11_first 41 = .ok (.istore 6, 2) := by decide +kernel
theorem dX11_first_43 : decode cX11_first 43 = .ok (.iload 5, 2) := by decide +kernel
theorem dX11_first_45 : decode cX11_first 45 = .ok (.istore 7, 2) := by decide +kernel
theorem dX11_first_47 : decode cX11_first 47 = .ok (.iconst 0, 1) := by decide +kernel
theorem dX11_first_48 : decode cX11_first 48 = .ok (.istore 8, 2) := by decide +kernel
theorem dX11_first_50 : decode cX11_first 50 = .ok (.iload 8, 2) := by decide +kernel
theorem dX11_first_52 : decode cX11_first 52 = .ok (.iload 6, 2) := by decide +kernel
theorem dX11_first_54 : decode cX11_first 54 = .ok (.if_icmp .ge 34, 3) := by decide +kernel
theorem dX11_first_57 : decode cX11_first 57 = .ok (.iload_n 2, 1) := by decide +kernel
theorem dX11_first_58 : decode cX11_first 58 = .ok (.ifCond .le 14, 3) := by decide +kernel
theorem dX11_first_61 : decode cX11_first 61 = .ok (.iload 7, 2) := by decide +kernel
theorem dX11_first_63 : decode cX11_first 63 = .ok (.iload_n 3, 1) := by decide +kernel
theorem dX11_first_64 : decode cX11_first 64 = .ok (.iadd, 1) := by decide +kernel
theorem dX11_first_65 : decode cX11_first 65 = .ok (.iload_n 1, 1) := by decide +kernel
theorem dX11_first_66 : decode cX11_first 66 = .ok (.if_icmp .le 6, 3) := by decide +kernel
theorem dX11_first_69 : decode cX11_first 69 = .ok (.iload 8, 2) := by decide +kernel
theorem dX11_first_71 : decode cX11_first 71 = .ok (.ireturn, 1) := by decide +kernel
theorem dX11_first_72 : decode cX11_first 72 = .ok (.iload 7, 2) := by decide +kernel
theorem dX11_first_74 : decode cX11_first 74 = .ok (.iload 4, 2) := by decide +kernel
theorem dX11_first_76 : decode cX11_first 76 = .ok (.iadd, 1) := by decide +kernel
theorem dX11_first_77 : decode cX11_first 77 = .ok (.iload 6, 2) := by decide +kernel
theorem dX11_first_79 : decode cX11_first 79 = .ok (.irem, 1) := by decide +kernel
theorem dX11_first_80 : decode cX11_first 80 = .ok (.istore 7, 2) := by decide +kernel
theorem dX11_first_82 : decode cX11_first 82 = .ok (.iinc 8 1, 3) := by decide +kernel
theorem dX11_first_85 : decode cX11_first 85 = .ok (.goto (-35), 3) := by decide +kernel
theorem dX11_first_88 : decode cX11_first 88 = .ok (.iconst (-1), 1) := by decide +kernel
theorem dX11_first_89 : decode cX11_first 89 = .ok (.ireturn, 1) := by decide +kernel
theorem dX11_isEndless_0 : decode cX11_isEndless 0 = .ok (.iload_n 0, 1) := by decide +kernel
theorem dX11_isEndless_1 : decode cX11_isEndless 1 = .ok (.iconst 1, 1) := by decide +kernel
theorem dX11_isEndless_2 : decode cX11_isEndless 2 = .ok (.if_icmp .lt 34, 3) := by decide +kernel
theorem dX11_isEndless_5 : decode cX11_isEndless 5 = .ok (.iload_n 0, 1) := by decide +kernel
theorem dX11_isEndless_6 : decode cX11_isEndless 6 = .ok (.bipush 60, 2) := by decide +kernel
theorem dX11_isEndless_8 : decode cX11_isEndless 8 = .ok (.if_icmp .gt 28, 3) := by decide +kernel
theorem dX11_isEndless_11 : decode cX11_isEndless 11 = .ok (.iload_n 1, 1) := by decide +kernel
theorem dX11_isEndless_12 : decode cX11_isEndless 12 = .ok (.ifCond .lt 24, 3) := by decide +kernel
theorem dX11_isEndless_15 : decode cX11_isEndless 15 = .ok (.iload_n 1, 1) := by decide +kernel
theorem dX11_isEndless_16 : decode cX11_isEndless 16 = .ok (.bipush 9, 2) := by decide +kernel
theorem dX11_isEndless_18 : decode cX11_isEndless 18 = .ok (.if_icmp .gt 18, 3) := by decide +kernel
theorem dX11_isEndless_21 : decode cX11_isEndless 21 = .ok (.iload_n 2, 1) := by decide +kernel
theorem dX11_isEndless_22 : decode cX11_isEndless 22 = .ok (.iconst 1, 1) := by decide +kernel
theorem dX11_isEndless_23 : decode cX11_isEndless 23 = .ok (.if_icmp .lt 13, 3) := by decide +kernel
theorem dX11_isEndless_26 : decode cX11_isEndless 26 = .ok (.iload_n 2, 1) := by decide +kernel
theorem dX11_isEndless_27 : decode cX11_isEndless 27 = .ok (.bipush 12, 2) := by decide +kernel
theorem dX11_isEndless_29 : decode cX11_isEndless 29 = .ok (.if_icmp .gt 7, 3) := by decide +kernel
theorem dX11_isEndless_32 : decode cX11_isEndless 32 = .ok (.iconst 1, 1) := by decide +kernel
theorem dX11_isEndless_33 : decode cX11_isEndless 33 = .ok (.goto 4, 3) := by decide +kernel
theorem dX11_isEndless_36 : decode cX11_isEndless 36 = .ok (.iconst 0, 1) := by decide +kernel
theorem dX11_isEndless_37 : decode cX11_isEndless 37 = .ok (.ireturn, 1) := by decide +kernel
theorem dX11_suits_0 : decode cX11_suits 0 = .ok (.iload_n 1, 1) := by decide +kernel
theorem dX11_suits_1 : decode cX11_suits 1 = .ok (.iload_n 2, 1) := by decide +kernel
theorem dX11_suits_2 : decode cX11_suits 2 = .ok (.iload 5, 2) := by decide +kernel
theorem dX11_suits_4 : decode cX11_suits 4 = .ok (.invokestatic 194, 3) := by decide +kernel
theorem dX11_suits_7 : decode cX11_suits 7 = .ok (.ifCond .eq 14, 3) := by decide +kernel
theorem dX11_suits_10 : decode cX11_suits 10 = .ok (.iload_n 3, 1) := by decide +kernel
theorem dX11_suits_11 : decode cX11_suits 11 = .ok (.iload 4, 2) := by decide +kernel
theorem dX11_suits_13 : decode cX11_suits 13 = .ok (.iload 5, 2) := by decide +kernel
theorem dX11_suits_15 : decode cX11_suits 15 = .ok (.invokestatic 194, 3) := by decide +kernel
theorem dX11_suits_18 : decode cX11_suits 18 = .ok (.ifCond .ne 7, 3) := by decide +kernel
theorem dX11_suits_21 : decode cX11_suits 21 = .ok (.ldc2_w 165, 3) := by decide +kernel
theorem dX11_suits_24 : decode cX11_suits 24 = .ok (.lreturn, 1) := by decide +kernel
theorem dX11_suits_25 : decode cX11_suits 25 = .ok (.lconst 0, 1) := by decide +kernel
theorem dX11_suits_26 : decode cX11_suits 26 = .ok (.lstore 6, 2) := by decide +kernel
theorem dX11_suits_28 : decode cX11_suits 28 = .ok (.iconst 1, 1) := by decide +kernel
theorem dX11_suits_29 : decode cX11_suits 29 = .ok (.istore 8, 2) := by decide +kernel
theorem dX11_suits_31 : decode cX11_suits 31 = .ok (.iload 8, 2) := by decide +kernel
theorem dX11_suits_33 : decode cX11_suits 33 = .ok (.bipush 60, 2) := by decide +kernel
theorem dX11_suits_35 : decode cX11_suits 35 = .ok (.if_icmp .gt 45, 3) := by decide +kernel
theorem dX11_suits_38 : decode cX11_suits 38 = .ok (.iload_n 1, 1) := by decide +kernel
theorem dX11_suits_39 : decode cX11_suits 39 = .ok (.iload_n 2, 1) := by decide +kernel
theorem dX11_suits_40 : decode cX11_suits 40 = .ok (.iload 5, 2) := by decide +kernel
theorem dX11_suits_42 : decode cX11_suits 42 = .ok (.iload 8, 2) := by decide +kernel
theorem dX11_suits_44 : decode cX11_suits 44 = .ok (.invokestatic 197, 3) := by decide +kernel
theorem dX11_suits_47 : decode cX11_suits 47 = .ok (.ifCond .eq 27, 3) := by decide +kernel
theorem dX11_suits_50 : decode cX11_suits 50 = .ok (.iload_n 3, 1) := by decide +kernel
theorem dX11_suits_51 : decode cX11_suits 51 = .ok (.iload 4, 2) := by decide +kernel
theorem dX11_suits_53 : decode cX11_suits 53 = .ok (.iload 5, 2) := by decide +kernel
theorem dX11_suits_55 : decode cX11_suits 55 = .ok (.iload 8, 2) := by decide +kernel
theorem dX11_suits_57 : decode cX11_suits 57 = .ok (.invokestatic 197, 3) := by decide +kernel
theorem dX11_suits_60 : decode cX11_suits 60 = .ok (.ifCond .eq 14, 3) := by decide +kernel
theorem dX11_suits_63 : decode cX11_suits 63 = .ok (.lload 6, 2) := by decide +kernel
theorem dX11_suits_65 : decode cX11_suits 65 = .ok (.lconst 1, 1) := by decide +kernel
theorem dX11_suits_66 : decode cX11_suits 66 = .ok (.iload 8, 2) := by decide +kernel
theorem dX11_suits_68 : decode cX11_suits 68 = .ok (.iconst 1, 1) := by decide +kernel
theorem dX11_suits_69 : decode cX11_suits 69 = .ok (.isub, 1) := by decide +kernel
theorem dX11_suits_70 : decode cX11_suits 70 = .ok (.lshl, 1) := by decide +kernel
theorem dX11_suits_71 : decode cX11_suits 71 = .ok (.lor, 1) := by decide +kernel
theorem dX11_suits_72 : decode cX11_suits 72 = .ok (.lstore 6, 2) := by decide +kernel
theorem dX11_suits_74 : decode cX11_suits 74 = .ok (.iinc 8 1, 3) := by decide +kernel
theorem dX11_suits_77 : decode cX11_suits 77 = .ok (.goto (-46), 3) := by decide +kernel
theorem dX11_suits_80 : decode cX11_suits 80 = .ok (.lload 6, 2) := by decide +kernel
theorem dX11_suits_82 : decode cX11_suits 82 = .ok (.lreturn, 1) := by decide +kernel
theorem dX12_areSlabs_0 : decode cX12_areSlabs 0 = .ok (.iload_n 0, 1) := by decide +kernel
theorem dX12_areSlabs_1 : decode cX12_areSlabs 1 = .ok (.iconst 1, 1) := by decide +kernel
theorem dX12_areSlabs_2 : decode cX12_areSlabs 2 = .ok (.bipush 60, 2) := by decide +kernel
theorem dX12_areSlabs_4 : decode cX12_areSlabs 4 = .ok (.invokestatic 449, 3) := by decide +kernel
theorem dX12_areSlabs_7 : decode cX12_areSlabs 7 = .ok (.ifCond .eq 27, 3) := by decide +kernel
theorem dX12_areSlabs_10 : decode cX12_areSlabs 10 = .ok (.iload_n 1, 1) := by decide +kernel
theorem dX12_areSlabs_11 : decode cX12_areSlabs 11 = .ok (.iconst 0, 1) := by decide +kernel
theorem dX12_areSlabs_12 : decode cX12_areSlabs 12 = .ok (.bipush 9, 2) := by decide +kernel
theorem dX12_areSlabs_14 : decode cX12_areSlabs 14 = .ok (.invokestatic 449, 3) := by decide +kernel
theorem dX12_areSlabs_17 : decode cX12_areSlabs 17 = .ok (.ifCond .eq 17, 3) := by decide +kernel
theorem dX12_areSlabs_20 : decode cX12_areSlabs 20 = .ok (.iload_n 2, 1) := by decide +kernel
theorem dX12_areSlabs_21 : decode cX12_areSlabs 21 = .ok (.iconst 1, 1) := by decide +kernel
theorem dX12_areSlabs_22 : decode cX12_areSlabs 22 = .ok (.bipush 12, 2) := by decide +kernel
theorem dX12_areSlabs_24 : decode cX12_areSlabs 24 = .ok (.invokestatic 449, 3) := by decide +kernel
theorem dX12_areSlabs_27 : decode cX12_areSlabs 27 = .ok (.ifCond .eq 7, 3) := by decide +kernel
theorem dX12_areSlabs_30 : decode cX12_areSlabs 30 = .ok (.iconst 1, 1) := by decide +kernel
theorem dX12_areSlabs_31 : decode cX12_areSlabs 31 = .ok (.goto 4, 3) := by decide +kernel
theorem dX12_areSlabs_34 : decode cX12_areSlabs 34 = .ok (.iconst 0, 1) := by decide +kernel
theorem dX12_areSlabs_35 : decode cX12_areSlabs 35 = .ok (.ireturn, 1) := by decide +kernel
theorem dX12_begin_0 : decode cX12_begin 0 = .ok (.iload_n 1, 1) := by decide +kernel
theorem dX12_begin_1 : decode cX12_begin 1 = .ok (.iload_n 2, 1) := by decide +kernel
theorem dX12_begin_2 : decode cX12_begin 2 = .ok (.iload_n 3, 1) := by decide +kernel
theorem dX12_begin_3 : decode cX12_begin 3 = .ok (.invokestatic 536, 3) := by decide +kernel
theorem dX12_begin_6 : decode cX12_begin 6 = .ok (.ifCond .eq 25, 3) := by decide +kernel
theorem dX12_begin_9 : decode cX12_begin 9 = .ok (.iload 4, 2) := by decide +kernel
theorem dX12_begin_11 : decode cX12_begin 11 = .ok (.iconst 1, 1) := by decide +kernel
theorem dX12_begin_12 : decode cX12_begin 12 = .ok (.bipush 99, 2) := by decide +kernel
theorem dX12_begin_14 : decode cX12_begin 14 = .ok (.invokestatic 449, 3) := by decide +kernel
theorem dX12_begin_17 : decode cX12_begin 17 = .ok (.ifCond .eq 14, 3) := by decide +kernel
theorem dX12_begin_20 : decode cX12_begin 20 = .ok (.iload_n 1, 1) := by decide +kernel
theorem dX12_begin_21 : decode cX12_begin 21 = .ok (.iload_n 2, 1) := by decide +kernel
theorem dX12_begin_22 : decode cX12_begin 22 = .ok (.iload_n 3, 1) := by decide +kernel
theorem dX12_begin_23 : decode cX12_begin 23 = .ok (.iload 4, 2) := by decide +kernel
theorem dX12_begin_25 : decode cX12_begin 25 = .ok (.invokestatic 543, 3) := by decide +kernel
theorem dX12_begin_28 : decode cX12_begin 28 = .ok (.goto 4, 3) := by decide +kernel
theorem dX12_begin_31 : decode cX12_begin 31 = .ok (.iconst (-1), 1) := by decide +kernel
theorem dX12_begin_32 : decode cX12_begin 32 = .ok (.ireturn, 1) := by decide +kernel
theorem dX12_beginOf_0 : decode cX12_beginOf 0 = .ok (.iconst 0, 1) := by decide +kernel
theorem dX12_beginOf_1 : decode cX12_beginOf 1 = .ok (.istore 4, 2) := by decide +kernel
theorem dX12_beginOf_3 : decode cX12_beginOf 3 = .ok (.iconst 0, 1) := by decide +kernel
theorem dX12_beginOf_4 : decode cX12_beginOf 4 = .ok (.istore 5, 2) := by decide +kernel
theorem dX12_beginOf_6 : decode cX12_beginOf 6 = .ok (.iload 5, 2) := by decide +kernel
theorem dX12_beginOf_8 : decode cX12_beginOf 8 = .ok (.iload_n 0, 1) := by decide +kernel
theorem dX12_beginOf_9 : decode cX12_beginOf 9 = .ok (.iload_n 1, 1) := by decide +kernel
theorem dX12_beginOf_10 : decode cX12_beginOf 10 = .ok (.iadd, 1) := by decide +kernel
theorem dX12_beginOf_11 : decode cX12_beginOf 11 = .ok (.if_icmp .ge 34, 3) := by decide +kernel
theorem dX12_beginOf_14 : decode cX12_beginOf 14 = .ok (.iload 4, 2) := by decide +kernel
theorem dX12_beginOf_16 : decode cX12_beginOf 16 = .ok (.iload_n 0, 1) := by decide +kernel
theorem dX12_beginOf_17 : decode cX12_beginOf 17 = .ok (.iload_n 1, 1) := by decide +kernel
theorem dX12_beginOf_18 : decode cX12_beginOf 18 = .ok (.iload_n 2, 1) := by decide +kernel
theorem dX12_beginOf_19 : decode cX12_beginOf 19 = .ok (.iload_n 3, 1) := by decide +kernel
theorem dX12_beginOf_20 : decode cX12_beginOf 20 = .ok (.iload 5, 2) := by decide +kernel
theorem dX12_beginOf_22 : decode cX12_beginOf 22 = .ok (.invokestatic 539, 3) := by decide +kernel
theorem dX12_beginOf_25 : decode cX12_beginOf 25 = .ok (.ifCond .ge 7, 3) := by decide +kernel
theorem dX12_beginOf_28 : decode cX12_beginOf 28 = .ok (.iconst 1, 1) := by decide +kernel
theorem dX12_beginOf_29 : decode cX12_beginOf 29 = .ok (.goto 4, 3) := by decide +kernel
theorem dX12_beginOf_32 : decode cX12_beginOf 32 = .ok (.iconst 0, 1) := by decide +kernel
theorem dX12_beginOf_33 : decode cX12_beginOf 33 = .ok (.invokestatic 348, 3) := by decide +kernel
theorem dX12_beginOf_36 : decode cX12_beginOf 36 = .ok (.iadd, 1) := by decide +kernel
theorem dX12_beginOf_37 : decode cX12_beginOf 37 = .ok (.istore 4, 2) := by decide +kernel
theorem dX12_beginOf_39 : decode cX12_beginOf 39 = .ok (.iinc 5 1, 3) := by decide +kernel
theorem dX12_beginOf_42 : decode cX12_beginOf 42 = .ok (.goto (-36), 3) := by decide +kernel
theorem dX12_beginOf_45 : decode cX12_beginOf 45 = .ok (.iload 4, 2) := by decide +kernel
theorem dX12_beginOf_47 : decode cX12_beginOf 47 = .ok (.ireturn, 1) := by decide +kernel
theorem dX12_first_0 : decode cX12_first 0 = .ok (.iload_n 1, 1) := by decide +kernel
theorem dX12_first_1 : decode cX12_first 1 = .ok (.iload_n 2, 1) := by decide +kernel
theorem dX12_first_2 : decode cX12_first 2 = .ok (.iload_n 3, 1) := by decide +kernel
theorem dX12_first_3 : decode cX12_first 3 = .ok (.invokestatic 536, 3) := by decide +kernel
theorem dX12_first_6 : decode cX12_first 6 = .ok (.ifCond .eq 41, 3) := by decide +kernel
theorem dX12_first_9 : decode cX12_first 9 = .ok (.iload 4, 2) := by decide +kernel
theorem dX12_first_11 : decode cX12_first 11 = .ok (.iconst 1, 1) := by decide +kernel
theorem dX12_first_12 : decode cX12_first 12 = .ok (.bipush 99, 2) := by decide +kernel
theorem dX12_first_14 : decode cX12_first 14 = .ok (.invokestatic 449, 3) := by decide +kernel
theorem dX12_first_17 : decode cX12_first 17 = .ok (.ifCond .eq 30, 3) := by decide +kernel
theorem dX12_first_20 : decode cX12_first 20 = .ok (.iload 5, 2) := by decide +kernel
theorem dX12_first_22 : decode cX12_first 22 = .ok (.iconst 0, 1) := by decide +kernel
theorem dX12_first_23 : decode cX12_first 23 = .ok (.iload_n 1, 1) := by decide +kernel
theorem dX12_first_24 : decode cX12_first 24 = .ok (.iload_n 2, 1) := by decide +kernel
theorem dX12_first_25 : decode cX12_first 25 = .ok (.iadd, 1) := by decide +kernel
theorem dX12_first_26 : decode cX12_first 26 = .ok (.iconst 1, 1) := by decide +kernel
theorem dX12_first_27 : decode cX12_first 27 = .ok (.isub, 1) := by decide +kernel
theorem dX12_first_28 : decode cX12_first 28 = .ok (.invokestatic 449, 3) := by decide +kernel
theorem dX12_first_31 : decode cX12_first 31 = .ok (.ifCond .eq 16, 3) := by decide +kernel
theorem dX12_first_34 : decode cX12_first 34 = .ok (.iload_n 1, 1) := by decide +kernel
theorem dX12_first_35 : decode cX12_first 35 = .ok (.iload_n 2, 1) := by decide +kernel
theorem dX12_first_36 : decode cX12_first 36 = .ok (.iload_n 3, 1) := by decide +kernel
theorem dX12_first_37 : decode cX12_first 37 = .ok (.iload 4, 2) := by decide +kernel
theorem dX12_first_39 : decode cX12_first 39 = .ok (.iload 5, 2) := by decide +kernel
theorem dX12_first_41 : decode cX12_first 41 = .ok (.invokestatic 539, 3) := by decide +kernel
theorem dX12_first_44 : decode cX12_first 44 = .ok (.goto 5, 3) := by decide +kernel
theorem dX12_first_47 : decode cX12_first 47 = .ok (.bipush (-2), 2) := by decide +kernel
theorem dX12_first_49 : decode cX12_first 49 = .ok (.ireturn, 1) := by decide +kernel
theorem dX12_firstOf_0 : decode cX12_firstOf 0 = .ok (.iload 4, 2) := by decide +kernel
theorem dX12_firstOf_2 : decode cX12_firstOf 2 = .ok (.istore 5, 2) := by decide +kernel
theorem dX12_firstOf_4 : decode cX12_firstOf 4 = .ok (.iconst 0, 1) := by decide +kernel
theorem dX12_firstOf_5 : decode cX12_firstOf 5 = .ok (.istore 6, 2) := by decide +kernel
theorem dX12_firstOf_7 : decode cX12_firstOf 7 = .ok (.iload 6, 2) := by decide +kernel
theorem dX12_firstOf_9 : decode cX12_firstOf 9 = .ok (.iload_n 0, 1) := by decide +kernel
theorem dX12_firstOf_10 : decode cX12_firstOf 10 = .ok (.iload_n 1, 1) := by decide +kernel
theorem dX12_firstOf_11 : decode cX12_firstOf 11 = .ok (.iadd, 1) := by decide +kernel
theorem dX12_firstOf_12 : decode cX12_firstOf 12 = .ok (.if_icmp .gt 33, 3) := by decide +kernel
theorem dX12_firstOf_15 : decode cX12_firstOf 15 = .ok (.iload_n 0, 1) := by decide +kernel
theorem dX12_firstOf_16 : decode cX12_firstOf 16 = .ok (.iload_n 1, 1) := by decide +kernel
theorem dX12_firstOf_17 : decode cX12_firstOf 17 = .ok (.iload_n 2, 1) := by decide +kernel
theorem dX12_firstOf_18 : decode cX12_firstOf 18 = .ok (.iload 5, 2) := by decide +kernel
theorem dX12_firstOf_20 : decode cX12_firstOf 20 = .ok (.invokestatic 532, 3) := by decide +kernel
theorem dX12_firstOf_23 : decode cX12_firstOf 23 = .ok (.ifCond .ne 6, 3) := by decide +kernel
theorem dX12_firstOf_26 : decode cX12_firstOf 26 = .ok (.iload 6, 2) := by decide +kernel
theorem dX12_firstOf_28 : decode cX12_firstOf 28 = .ok (.ireturn, 1) := by decide +kernel
theorem dX12_firstOf_29 : decode cX12_firstOf 29 = .ok (.iload 5, 2) := by decide +kernel
theorem dX12_firstOf_31 : decode cX12_firstOf 31 = .ok (.iload_n 3, 1) := by decide +kernel
theorem dX12_firstOf_32 : decode cX12_firstOf 32 = .ok (.iadd, 1) := by decide +kernel
theorem dX12_firstOf_33 : decode cX12_firstOf 33 = .ok (.iload_n 0, 1) := by decide +kernel
theorem dX12_firstOf_34 : decode cX12_firstOf 34 = .ok (.iload_n 1, 1) := by decide +kernel
theorem dX12_firstOf_35 : decode cX12_firstOf 35 = .ok (.iadd, 1) := by decide +kernel
theorem dX12_firstOf_36 : decode cX12_firstOf 36 = .ok (.irem, 1) := by decide +kernel
theorem dX12_firstOf_37 : decode cX12_firstOf 37 = .ok (.istore 5, 2) := by decide +kernel
theorem dX12_firstOf_39 : decode cX12_firstOf 39 = .ok (.iinc 6 1, 3) := by decide +kernel
theorem dX12_firstOf_42 : decode cX12_firstOf 42 = .ok (.goto (-35), 3) := by decide +kernel
theorem dX12_firstOf_45 : decode cX12_firstOf 45 = .ok (.iconst (-1), 1) := by decide +kernel
theorem dX12_firstOf_46 : decode cX12_firstOf 46 = .ok (.ireturn, 1) := by decide +kernel
theorem dX12_isIn_10 : decode cX12_isIn 10 = .ok (.iconst 1, 1) := by decide +kernel
theorem dX12_isIn_11 : decode cX12_isIn 11 = .ok (.goto 4, 3) := by decide +kernel
theorem dX12_isPlain_0 : decode cX12_isPlain 0 = .ok (.iconst 1, 1) := by decide +kernel
theorem dX12_isPlain_1 : decode cX12_isPlain 1 = .ok (.istore 4, 2) := by decide +kernel
theorem dX12_isPlain_3 : decode cX12_isPlain 3 = .ok (.iload_n 3, 1) := by decide +kernel
theorem dX12_isPlain_4 : decode cX12_isPlain 4 = .ok (.istore 5, 2) := by decide +kernel
theorem dX12_isPlain_6 : decode cX12_isPlain 6 = .ok (.iload 5, 2) := by decide +kernel
theorem dX12_isPlain_8 : decode cX12_isPlain 8 = .ok (.iload_n 3, 1) := by decide +kernel
theorem dX12_isPlain_9 : decode cX12_isPlain 9 = .ok (.iload_n 2, 1) := by decide +kernel
theorem dX12_isPlain_10 : decode cX12_isPlain 10 = .ok (.iadd, 1) := by decide +kernel
theorem dX12_isPlain_11 : decode cX12_isPlain 11 = .ok (.if_icmp .ge 31, 3) := by decide +kernel
theorem dX12_isPlain_14 : decode cX12_isPlain 14 = .ok (.iload 4, 2) := by decide +kernel
theorem dX12_isPlain_16 : decode cX12_isPlain 16 = .ok (.ifCond .eq 17, 3) := by decide +kernel
theorem dX12_isPlain_19 : decode cX12_isPlain 19 = .ok (.iload 5, 2) := by decide +kernel
theorem dX12_isPlain_21 : decode cX12_isPlain 21 = .ok (.iload_n 0, 1) := by decide +kernel
theorem dX12_isPlain_22 : decode cX12_isPlain 22 = .ok (.iload_n 1, 1) := by decide +kernel
theorem dX12_isPlain_23 : decode cX12_isPlain 23 = .ok (.iadd, 1) := by decide +kernel
theorem dX12_isPlain_24 : decode cX12_isPlain 24 = .ok (.irem, 1) := by decide +kernel
theorem dX12_isPlain_25 : decode cX12_isPlain 25 = .ok (.iload_n 0, 1) := by decide +kernel
theorem dX12_isPlain_26 : decode cX12_isPlain 26 = .ok (.if_icmp .ge 7, 3) := by decide +kernel
theorem dX12_isPlain_29 : decode cX12_isPlain 29 = .ok (.iconst 1, 1) := by decide +kernel
theorem dX12_isPlain_30 : decode cX12_isPlain 30 = .ok (.goto 4, 3) := by decide +kernel
theorem dX12_isPlain_33 : decode cX12_isPlain 33 = .ok (.iconst 0, 1) := by decide +kernel
theorem dX12_isPlain_34 : decode cX12_isPlain 34 = .ok (.istore 4, 2) := by decide +kernel
theorem dX12_isPlain_36 : decode cX12_isPlain 36 = .ok (.iinc 5 1, 3) := by decide +kernel
theorem dX12_isPlain_39 : decode cX12_isPlain 39 = .ok (.goto (-33), 3) := by decide +kernel
theorem dX12_isPlain_42 : decode cX12_isPlain 42 = .ok (.iload 4, 2) := by decide +kernel
theorem dX12_isPlain_44 : decode cX12_isPlain 44 = .ok (.ireturn, 1) := by decide +kernel
theorem dX12_suits_0 : decode cX12_suits 0 = .ok (.iload_n 1, 1) := by decide +kernel
theorem dX12_suits_1 : decode cX12_suits 1 = .ok (.iload_n 2, 1) := by decide +kernel
theorem dX12_suits_2 : decode cX12_suits 2 = .ok (.iload 5, 2) := by decide +kernel
theorem dX12_suits_4 : decode cX12_suits 4 = .ok (.invokestatic 536, 3) := by decide +kernel
theorem dX12_suits_7 : decode cX12_suits 7 = .ok (.ifCond .eq 14, 3) := by decide +kernel
theorem dX12_suits_10 : decode cX12_suits 10 = .ok (.iload_n 3, 1) := by decide +kernel
theorem dX12_suits_11 : decode cX12_suits 11 = .ok (.iload 4, 2) := by decide +kernel
theorem dX12_suits_13 : decode cX12_suits 13 = .ok (.iload 5, 2) := by decide +kernel
theorem dX12_suits_15 : decode cX12_suits 15 = .ok (.invokestatic 536, 3) := by decide +kernel
theorem dX12_suits_18 : decode cX12_suits 18 = .ok (.ifCond .ne 7, 3) := by decide +kernel
theorem dX12_suits_21 : decode cX12_suits 21 = .ok (.ldc2_w 517, 3) := by decide +kernel
theorem dX12_suits_24 : decode cX12_suits 24 = .ok (.lreturn, 1) := by decide +kernel
theorem dX12_suits_25 : decode cX12_suits 25 = .ok (.lconst 0, 1) := by decide +kernel
theorem dX12_suits_26 : decode cX12_suits 26 = .ok (.lstore 6, 2) := by decide +kernel
theorem dX12_suits_28 : decode cX12_suits 28 = .ok (.iconst 1, 1) := by decide +kernel
theorem dX12_suits_29 : decode cX12_suits 29 = .ok (.istore 8, 2) := by decide +kernel
theorem dX12_suits_31 : decode cX12_suits 31 = .ok (.iload 8, 2) := by decide +kernel
theorem dX12_suits_33 : decode cX12_suits 33 = .ok (.bipush 60, 2) := by decide +kernel
theorem dX12_suits_35 : decode cX12_suits 35 = .ok (.if_icmp .gt 45, 3) := by decide +kernel
theorem dX12_suits_38 : decode cX12_suits 38 = .ok (.iload_n 1, 1) := by decide +kernel
theorem dX12_suits_39 : decode cX12_suits 39 = .ok (.iload_n 2, 1) := by decide +kernel
theorem dX12_suits_40 : decode cX12_suits 40 = .ok (.iload 5, 2) := by decide +kernel
theorem dX12_suits_42 : decode cX12_suits 42 = .ok (.iload 8, 2) := by decide +kernel
theorem dX12_suits_44 : decode cX12_suits 44 = .ok (.invokestatic 543, 3) := by decide +kernel
theorem dX12_suits_47 : decode cX12_suits 47 = .ok (.ifCond .le 27, 3) := by decide +kernel
theorem dX12_suits_50 : decode cX12_suits 50 = .ok (.iload_n 3, 1) := by decide +kernel
theorem dX12_suits_51 : decode cX12_suits 51 = .ok (.iload 4, 2) := by decide +kernel
theorem dX12_suits_53 : decode cX12_suits 53 = .ok (.iload 5, 2) := by decide +kernel
theorem dX12_suits_55 : decode cX12_suits 55 = .ok (.iload 8, 2) := by decide +kernel
theorem dX12_suits_57 : decode cX12_suits 57 = .ok (.invokestatic 543, 3) := by decide +kernel
theorem dX12_suits_60 : decode cX12_suits 60 = .ok (.ifCond .le 14, 3) := by decide +kernel
theorem dX12_suits_63 : decode cX12_suits 63 = .ok (.lload 6, 2) := by decide +kernel
theorem dX12_suits_65 : decode cX12_suits 65 = .ok (.lconst 1, 1) := by decide +kernel
theorem dX12_suits_66 : decode cX12_suits 66 = .ok (.iload 8, 2) := by decide +kernel
theorem dX12_suits_68 : decode cX12_suits 68 = .ok (.iconst 1, 1) := by decide +kernel
theorem dX12_suits_69 : decode cX12_suits 69 = .ok (.isub, 1) := by decide +kernel
theorem dX12_suits_70 : decode cX12_suits 70 = .ok (.lshl, 1) := by decide +kernel
theorem dX12_suits_71 : decode cX12_suits 71 = .ok (.lor, 1) := by decide +kernel
theorem dX12_suits_72 : decode cX12_suits 72 = .ok (.lstore 6, 2) := by decide +kernel
theorem dX12_suits_74 : decode cX12_suits 74 = .ok (.iinc 8 1, 3) := by decide +kernel
theorem dX12_suits_77 : decode cX12_suits 77 = .ok (.goto (-46), 3) := by decide +kernel
theorem dX12_suits_80 : decode cX12_suits 80 = .ok (.lload 6, 2) := by decide +kernel
theorem dX12_suits_82 : decode cX12_suits 82 = .ok (.lreturn, 1) := by decide +kernel
theorem dX12_truth_0 : decode cX12_truth 0 = .ok (.iload_n 0, 1) := by decide +kernel
theorem dX12_truth_1 : decode cX12_truth 1 = .ok (.ifCond .eq 7, 3) := by decide +kernel
theorem dX12_truth_4 : decode cX12_truth 4 = .ok (.iconst 1, 1) := by decide +kernel
theorem dX12_truth_5 : decode cX12_truth 5 = .ok (.goto 4, 3) := by decide +kernel
theorem dX12_truth_8 : decode cX12_truth 8 = .ok (.iconst 0, 1) := by decide +kernel
theorem dX12_truth_9 : decode cX12_truth 9 = .ok (.ireturn, 1) := by decide +kernel
