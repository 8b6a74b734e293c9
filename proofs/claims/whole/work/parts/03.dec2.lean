theorem dX10_isHome_1 : decode cX10_isHome 1 = .ok (.iload_n 1, 1) := by decide +kernel
theorem dX10_isHome_2 : decode cX10_isHome 2 = .ok (.iconst 4, 1) := by decide +kernel
theorem dX10_isHome_3 : decode cX10_isHome 3 = .ok (.invokevirtual 109, 3) := by decide +kernel
theorem dX10_isHome_6 : decode cX10_isHome 6 = .ok (.aload_n 0, 1) := by decide +kernel
theorem dX10_isHome_7 : decode cX10_isHome 7 = .ok (.getfield 9, 3) := by decide +kernel
theorem dX10_isHome_10 : decode cX10_isHome 10 = .ok (.iconst 5, 1) := by decide +kernel
theorem dX10_isHome_11 : decode cX10_isHome 11 = .ok (.iaload, 1) := by decide +kernel
theorem dX10_isHome_12 : decode cX10_isHome 12 = .ok (.if_icmp .ne 16, 3) := by decide +kernel
theorem dX10_isHome_15 : decode cX10_isHome 15 = .ok (.aload_n 0, 1) := by decide +kernel
theorem dX10_isHome_16 : decode cX10_isHome 16 = .ok (.getfield 9, 3) := by decide +kernel
theorem dX10_isHome_19 : decode cX10_isHome 19 = .ok (.iconst 5, 1) := by decide +kernel
theorem dX10_isHome_20 : decode cX10_isHome 20 = .ok (.iaload, 1) := by decide +kernel
theorem dX10_isHome_21 : decode cX10_isHome 21 = .ok (.ifCond .le 7, 3) := by decide +kernel
theorem dX10_isHome_24 : decode cX10_isHome 24 = .ok (.iconst 1, 1) := by decide +kernel
theorem dX10_isHome_25 : decode cX10_isHome 25 = .ok (.goto 4, 3) := by decide +kernel
theorem dX10_isHome_28 : decode cX10_isHome 28 = .ok (.iconst 0, 1) := by decide +kernel
theorem dX10_isHome_29 : decode cX10_isHome 29 = .ok (.istore_n 2, 1) := by decide +kernel
theorem dX10_isHome_30 : decode cX10_isHome 30 = .ok (.iconst 0, 1) := by decide +kernel
theorem dX10_isHome_31 : decode cX10_isHome 31 = .ok (.istore_n 3, 1) := by decide +kernel
theorem dX10_isHome_32 : decode cX10_isHome 32 = .ok (.iload_n 3, 1) := by decide +kernel
theorem dX10_isHome_33 : decode cX10_isHome 33 = .ok (.aload_n 0, 1) := by decide +kernel
theorem dX10_isHome_34 : decode cX10_isHome 34 = .ok (.getfield 9, 3) := by decide +kernel
theorem dX10_isHome_37 : decode cX10_isHome 37 = .ok (.iconst 5, 1) := by decide +kernel
theorem dX10_isHome_38 : decode cX10_isHome 38 = .ok (.iaload, 1) := by decide +kernel
theorem dX10_isHome_39 : decode cX10_isHome 39 = .ok (.if_icmp .ge 44, 3) := by decide +kernel
theorem dX10_isHome_42 : decode cX10_isHome 42 = .ok (.iload_n 2, 1) := by decide +kernel
theorem dX10_isHome_43 : decode cX10_isHome 43 = .ok (.ifCond .eq 40, 3) := by decide +kernel
theorem dX10_isHome_46 : decode cX10_isHome 46 = .ok (.aload_n 0, 1) := by decide +kernel
theorem dX10_isHome_47 : decode cX10_isHome 47 = .ok (.iload_n 1, 1) := by decide +kernel
theorem dX10_isHome_48 : decode cX10_isHome 48 = .ok (.iconst 4, 1) := by decide +kernel
theorem dX10_isHome_49 : decode cX10_isHome 49 = .ok (.iload_n 3, 1) := by decide +kernel
theorem dX10_isHome_50 : decode cX10_isHome 50 = .ok (.invokevirtual 113, 3) := by decide +kernel
theorem dX10_isHome_53 : decode cX10_isHome 53 = .ok (.invokestatic 131, 3) := by decide +kernel
theorem dX10_isHome_56 : decode cX10_isHome 56 = .ok (.aload_n 0, 1) := by decide +kernel
theorem dX10_isHome_57 : decode cX10_isHome 57 = .ok (.getfield 9, 3) := by decide +kernel
theorem dX10_isHome_60 : decode cX10_isHome 60 = .ok (.bipush 6, 2) := by decide +kernel
theorem dX10_isHome_62 : decode cX10_isHome 62 = .ok (.iload_n 3, 1) := by decide +kernel
theorem dX10_isHome_63 : decode cX10_isHome 63 = .ok (.iadd, 1) := by decide +kernel
theorem dX10_isHome_64 : decode cX10_isHome 64 = .ok (.iaload, 1) := by decide +kernel
theorem dX10_isHome_65 : decode cX10_isHome 65 = .ok (.invokestatic 131, 3) := by decide +kernel
theorem dX10_isHome_68 : decode cX10_isHome 68 = .ok (.if_icmp .ne 7, 3) := by decide +kernel
theorem dX10_isHome_71 : decode cX10_isHome 71 = .ok (.iconst 1, 1) := by decide +kernel
theorem dX10_isHome_72 : decode cX10_isHome 72 = .ok (.goto 4, 3) := by decide +kernel
theorem dX10_isHome_75 : decode cX10_isHome 75 = .ok (.iconst 0, 1) := by decide +kernel
theorem dX10_isHome_76 : decode cX10_isHome 76 = .ok (.istore_n 2, 1) := by decide +kernel
theorem dX10_isHome_77 : decode cX10_isHome 77 = .ok (.iinc 3 1, 3) := by decide +kernel
theorem dX10_isHome_80 : decode cX10_isHome 80 = .ok (.goto (-48), 3) := by decide +kernel
theorem dX10_isHome_83 : decode cX10_isHome 83 = .ok (.iload_n 2, 1) := by decide +kernel
theorem dX10_isHome_84 : decode cX10_isHome 84 = .ok (.ireturn, 1) := by decide +kernel
theorem dX10_isLine_0 : decode cX10_isLine 0 = .ok (.aload_n 0, 1) := by decide +kernel
theorem dX10_isLine_1 : decode cX10_isLine 1 = .ok (.iload_n 1, 1) := by decide +kernel
theorem dX10_isLine_2 : decode cX10_isLine 2 = .ok (.iload_n 2, 1) := by decide +kernel
theorem dX10_isLine_3 : decode cX10_isLine 3 = .ok (.invokevirtual 109, 3) := by decide +kernel
theorem dX10_isLine_6 : decode cX10_isLine 6 = .ok (.ifCond .le 20, 3) := by decide +kernel
theorem dX10_isLine_9 : decode cX10_isLine 9 = .ok (.iload_n 2, 1) := by decide +kernel
theorem dX10_isLine_10 : decode cX10_isLine 10 = .ok (.iconst 4, 1) := by decide +kernel
theorem dX10_isLine_11 : decode cX10_isLine 11 = .ok (.if_icmp .ne 11, 3) := by decide +kernel
theorem dX10_isLine_14 : decode cX10_isLine 14 = .ok (.aload_n 0, 1) := by decide +kernel
theorem dX10_isLine_15 : decode cX10_isLine 15 = .ok (.iload_n 1, 1) := by decide +kernel
theorem dX10_isLine_16 : decode cX10_isLine 16 = .ok (.invokevirtual 134, 3) := by decide +kernel
theorem dX10_isLine_19 : decode cX10_isLine 19 = .ok (.ifCond .ne 7, 3) := by decide +kernel
theorem dX10_isLine_22 : decode cX10_isLine 22 = .ok (.iconst 1, 1) := by decide +kernel
theorem dX10_isLine_23 : decode cX10_isLine 23 = .ok (.goto 4, 3) := by decide +kernel
theorem dX10_isLine_26 : decode cX10_isLine 26 = .ok (.iconst 0, 1) := by decide +kernel
theorem dX10_isLine_27 : decode cX10_isLine 27 = .ok (.ireturn, 1) := by decide +kernel
theorem dX10_lines_0 : decode cX10_lines 0 = .ok (.iconst 0, 1) := by decide +kernel
theorem dX10_lines_1 : decode cX10_lines 1 = .ok (.istore_n 2, 1) := by decide +kernel
theorem dX10_lines_2 : decode cX10_lines 2 = .ok (.iconst 0, 1) := by decide +kernel
theorem dX10_lines_3 : decode cX10_lines 3 = .ok (.istore_n 3, 1) := by decide +kernel
theorem dX10_lines_4 : decode cX10_lines 4 = .ok (.iload_n 3, 1) := by decide +kernel
theorem dX10_lines_5 : decode cX10_lines 5 = .ok (.iconst 5, 1) := by decide +kernel
theorem dX10_lines_6 : decode cX10_lines 6 = .ok (.if_icmp .ge 26, 3) := by decide +kernel
theorem dX10_lines_9 : decode cX10_lines 9 = .ok (.iload_n 2, 1) := by decide +kernel
theorem dX10_lines_10 : decode cX10_lines 10 = .ok (.aload_n 0, 1) := by decide +kernel
theorem dX10_lines_11 : decode cX10_lines 11 = .ok (.iload_n 1, 1) := by decide +kernel
theorem dX10_lines_12 : decode cX10_lines 12 = .ok (.iload_n 3, 1) := by decide +kernel
theorem dX10_lines_13 : decode cX10_lines 13 = .ok (.invokevirtual 137, 3) := by decide +kernel
theorem dX10_lines_16 : decode cX10_lines 16 = .ok (.ifCond .eq 7, 3) := by decide +kernel
theorem dX10_lines_19 : decode cX10_lines 19 = .ok (.iconst 1, 1) := by decide +kernel
theorem dX10_lines_20 : decode cX10_lines 20 = .ok (.goto 4, 3) := by decide +kernel
theorem dX10_lines_23 : decode cX10_lines 23 = .ok (.iconst 0, 1) := by decide +kernel
theorem dX10_lines_24 : decode cX10_lines 24 = .ok (.iadd, 1) := by decide +kernel
theorem dX10_lines_25 : decode cX10_lines 25 = .ok (.istore_n 2, 1) := by decide +kernel
theorem dX10_lines_26 : decode cX10_lines 26 = .ok (.iinc 3 1, 3) := by decide +kernel
theorem dX10_lines_29 : decode cX10_lines 29 = .ok (.goto (-25), 3) := by decide +kernel
theorem dX10_lines_32 : decode cX10_lines 32 = .ok (.iload_n 2, 1) := by decide +kernel
theorem dX10_lines_33 : decode cX10_lines 33 = .ok (.ireturn, 1) := by decide +kernel
theorem dX10_record_0 : decode cX10_record 0 = .ok (.aload_n 0, 1) := by decide +kernel
theorem dX10_record_1 : decode cX10_record 1 = .ok (.aload_n 0, 1) := by decide +kernel
theorem dX10_record_2 : decode cX10_record 2 = .ok (.iload_n 1, 1) := by decide +kernel
theorem dX10_record_3 : decode cX10_record 3 = .ok (.invokevirtual 102, 3) := by decide +kernel
theorem dX10_record_6 : decode cX10_record 6 = .ok (.ifCond .ne 7, 3) := by decide +kernel
theorem dX10_record_9 : decode cX10_record 9 = .ok (.iconst 1, 1) := by decide +kernel
theorem dX10_record_10 : decode cX10_record 10 = .ok (.goto 17, 3) := by decide +kernel
theorem dX10_record_13 : decode cX10_record 13 = .ok (.iload_n 2, 1) := by decide +kernel
theorem dX10_record_14 : decode cX10_record 14 = .ok (.iconst 0, 1) := by decide +kernel
theorem dX10_record_15 : decode cX10_record 15 = .ok (.iconst 3, 1) := by decide +kernel
theorem dX10_record_16 : decode cX10_record 16 = .ok (.invokestatic 88, 3) := by decide +kernel
theorem dX10_record_19 : decode cX10_record 19 = .ok (.ifCond .eq 7, 3) := by decide +kernel
theorem dX10_record_22 : decode cX10_record 22 = .ok (.iconst 0, 1) := by decide +kernel
theorem dX10_record_23 : decode cX10_record 23 = .ok (.goto 4, 3) := by decide +kernel
theorem dX10_record_26 : decode cX10_record 26 = .ok (.iconst 2, 1) := by decide +kernel
theorem dX10_record_27 : decode cX10_record 27 = .ok (.putfield 78, 3) := by decide +kernel
theorem dX10_record_30 : decode cX10_record 30 = .ok (.aload_n 0, 1) := by decide +kernel
theorem dX10_record_31 : decode cX10_record 31 = .ok (.getfield 78, 3) := by decide +kernel
theorem dX10_record_34 : decode cX10_record 34 = .ok (.ifCond .eq 5, 3) := by decide +kernel
theorem dX10_record_37 : decode cX10_record 37 = .ok (.iconst 0, 1) := by decide +kernel
theorem dX10_record_38 : decode cX10_record 38 = .ok (.ireturn, 1) := by decide +kernel
theorem dX10_record_39 : decode cX10_record 39 = .ok (.iconst 0, 1) := by decide +kernel
theorem dX10_record_40 : decode cX10_record 40 = .ok (.istore_n 3, 1) := by decide +kernel
theorem dX10_record_41 : decode cX10_record 41 = .ok (.iconst 0, 1) := by decide +kernel
theorem dX10_record_42 : decode cX10_record 42 = .ok (.istore 4, 2) := by decide +kernel
theorem dX10_record_44 : decode cX10_record 44 = .ok (.iload 4, 2) := by decide +kernel
theorem dX10_record_46 : decode cX10_record 46 = .ok (.iconst 5, 1) := by decide +kernel
theorem dX10_record_47 : decode cX10_record 47 = .ok (.if_icmp .ge 30, 3) := by decide +kernel
theorem dX10_record_50 : decode cX10_record 50 = .ok (.iload_n 3, 1) := by decide +kernel
theorem dX10_record_51 : decode cX10_record 51 = .ok (.aload_n 0, 1) := by decide +kernel
theorem dX10_record_52 : decode cX10_record 52 = .ok (.iload_n 1, 1) := by decide +kernel
theorem dX10_record_53 : decode cX10_record 53 = .ok (.iload 4, 2) := by decide +kernel
theorem dX10_record_55 : decode cX10_record 55 = .ok (.invokevirtual 109, 3) := by decide +kernel
theorem dX10_record_58 : decode cX10_record 58 = .ok (.ifCond .le 10, 3) := by decide +kernel
theorem dX10_record_61 : decode cX10_record 61 = .ok (.iconst 1, 1) := by decide +kernel
theorem dX10_record_62 : decode cX10_record 62 = .ok (.iload 4, 2) := by decide +kernel
theorem dX10_record_64 : decode cX10_record 64 = .ok (.ishl, 1) := by decide +kernel
theorem dX10_record_65 : decode cX10_record 65 = .ok (.goto 4, 3) := by decide +kernel
theorem dX10_record_68 : decode cX10_record 68 = .ok (.iconst 0, 1) := by decide +kernel
theorem dX10_record_69 : decode cX10_record 69 = .ok (.ior, 1) := by decide +kernel
theorem dX10_record_70 : decode cX10_record 70 = .ok (.istore_n 3, 1) := by decide +kernel
theorem dX10_record_71 : decode cX10_record 71 = .ok (.iinc 4 1, 3) := by decide +kernel
theorem dX10_record_74 : decode cX10_record 74 = .ok (.goto (-30), 3) := by decide +kernel
theorem dX10_record_77 : decode cX10_record 77 = .ok (.iload_n 2, 1) := by decide +kernel
theorem dX10_record_78 : decode cX10_record 78 = .ok (.ifCond .ne 11, 3) := by decide +kernel
theorem dX10_record_81 : decode cX10_record 81 = .ok (.aload_n 0, 1) := by decide +kernel
theorem dX10_record_82 : decode cX10_record 82 = .ok (.iload_n 1, 1) := by decide +kernel
theorem dX10_record_83 : decode cX10_record 83 = .ok (.invokevirtual 92, 3) := by decide +kernel
theorem dX10_record_86 : decode cX10_record 86 = .ok (.goto 30, 3) := by decide +kernel
theorem dX10_record_89 : decode cX10_record 89 = .ok (.iload_n 2, 1) := by decide +kernel
theorem dX10_record_90 : decode cX10_record 90 = .ok (.iconst 1, 1) := by decide +kernel
theorem dX10_record_91 : decode cX10_record 91 = .ok (.if_icmp .ne 11, 3) := by decide +kernel
theorem dX10_record_94 : decode cX10_record 94 = .ok (.aload_n 0, 1) := by decide +kernel
theorem dX10_record_95 : decode cX10_record 95 = .ok (.iload_n 1, 1) := by decide +kernel
theorem dX10_record_96 : decode cX10_record 96 = .ok (.invokevirtual 141, 3) := by decide +kernel
theorem dX10_record_99 : decode cX10_record 99 = .ok (.goto 17, 3) := by decide +kernel
theorem dX10_record_102 : decode cX10_record 102 = .ok (.iload_n 2, 1) := by decide +kernel
theorem dX10_record_103 : decode cX10_record 103 = .ok (.iconst 2, 1) := by decide +kernel
theorem dX10_record_104 : decode cX10_record 104 = .ok (.if_icmp .ne 7, 3) := by decide +kernel
theorem dX10_record_107 : decode cX10_record 107 = .ok (.iload_n 3, 1) := by decide +kernel
theorem dX10_record_108 : decode cX10_record 108 = .ok (.goto 8, 3) := by decide +kernel
theorem dX10_record_111 : decode cX10_record 111 = .ok (.aload_n 0, 1) := by decide +kernel
theorem dX10_record_112 : decode cX10_record 112 = .ok (.iload_n 1, 1) := by decide +kernel
theorem dX10_record_113 : decode cX10_record 113 = .ok (.invokevirtual 144, 3) := by decide +kernel
theorem dX10_record_116 : decode cX10_record 116 = .ok (.ireturn, 1) := by decide +kernel
theorem dX10_here_0 : decode cX10_here 0 = .ok (.aload_n 0, 1) := by decide +kernel
theorem dX10_here_1 : decode cX10_here 1 = .ok (.getfield 147, 3) := by decide +kernel
theorem dX10_here_4 : decode cX10_here 4 = .ok (.aload_n 0, 1) := by decide +kernel
theorem dX10_here_5 : decode cX10_here 5 = .ok (.getfield 150, 3) := by decide +kernel
theorem dX10_here_8 : decode cX10_here 8 = .ok (.if_icmp .ge 15, 3) := by decide +kernel
theorem dX10_here_11 : decode cX10_here 11 = .ok (.aload_n 0, 1) := by decide +kernel
theorem dX10_here_12 : decode cX10_here 12 = .ok (.getfield 29, 3) := by decide +kernel
theorem dX10_here_15 : decode cX10_here 15 = .ok (.aload_n 0, 1) := by decide +kernel
theorem dX10_here_16 : decode cX10_here 16 = .ok (.getfield 147, 3) := by decide +kernel
theorem dX10_here_19 : decode cX10_here 19 = .ok (.iaload, 1) := by decide +kernel
theorem dX10_here_20 : decode cX10_here 20 = .ok (.goto 4, 3) := by decide +kernel
theorem dX10_here_23 : decode cX10_here 23 = .ok (.iconst (-1), 1) := by decide +kernel
theorem dX10_here_24 : decode cX10_here 24 = .ok (.ireturn, 1) := by decide +kernel
theorem dX10_isNext_0 : decode cX10_isNext 0 = .ok (.aload_n 0, 1) := by decide +kernel
theorem dX10_isNext_1 : decode cX10_isNext 1 = .ok (.getfield 153, 3) := by decide +kernel
theorem dX10_isNext_4 : decode cX10_isNext 4 = .ok (.ifCond .ge 11, 3) := by decide +kernel
theorem dX10_isNext_7 : decode cX10_isNext 7 = .ok (.aload_n 0, 1) := by decide +kernel
theorem dX10_isNext_8 : decode cX10_isNext 8 = .ok (.invokevirtual 156, 3) := by decide +kernel
theorem dX10_isNext_11 : decode cX10_isNext 11 = .ok (.iload_n 1, 1) := by decide +kernel
theorem dX10_isNext_12 : decode cX10_isNext 12 = .ok (.if_icmp .eq 5, 3) := by decide +kernel
theorem dX10_isNext_15 : decode cX10_isNext 15 = .ok (.iconst 0, 1) := by decide +kernel
theorem dX10_isNext_16 : decode cX10_isNext 16 = .ok (.ireturn, 1) := by decide +kernel
theorem dX10_isNext_17 : decode cX10_isNext 17 = .ok (.aload_n 0, 1) := by decide +kernel
theorem dX10_isNext_18 : decode cX10_isNext 18 = .ok (.dup, 1) := by decide +kernel
theorem dX10_isNext_19 : decode cX10_isNext 19 = .ok (.getfield 147, 3) := by decide +kernel
theorem dX10_isNext_22 : decode cX10_isNext 22 = .ok (.iconst 1, 1) := by decide +kernel
theorem dX10_isNext_23 : decode cX10_isNext 23 = .ok (.iadd, 1) := by decide +kernel
theorem dX10_isNext_24 : decode cX10_isNext 24 = .ok (.putfield 147, 3) := by decide +kernel
theorem dX10_isNext_27 : decode cX10_isNext 27 = .ok (.iconst 1, 1) := by decide +kernel
theorem dX10_isNext_28 : decode cX10_isNext 28 = .ok (.ireturn, 1) := by decide +kernel
theorem dX10_wants_0 : decode cX10_wants 0 = .ok (.aload_n 0, 1) := by decide +kernel
theorem dX10_wants_1 : decode cX10_wants 1 = .ok (.getfield 153, 3) := by decide +kernel
theorem dX10_wants_4 : decode cX10_wants 4 = .ok (.ifCond .ge 19, 3) := by decide +kernel
theorem dX10_wants_7 : decode cX10_wants 7 = .ok (.aload_n 0, 1) := by decide +kernel
theorem dX10_wants_8 : decode cX10_wants 8 = .ok (.iload_n 1, 1) := by decide +kernel
theorem dX10_wants_9 : decode cX10_wants 9 = .ok (.invokevirtual 159, 3) := by decide +kernel
theorem dX10_wants_12 : decode cX10_wants 12 = .ok (.ifCond .ne 11, 3) := by decide +kernel
theorem dX10_wants_15 : decode cX10_wants 15 = .ok (.aload_n 0, 1) := by decide +kernel
theorem dX10_wants_16 : decode cX10_wants 16 = .ok (.aload_n 0, 1) := by decide +kernel
theorem dX10_wants_17 : decode cX10_wants 17 = .ok (.getfield 147, 3) := by decide +kernel
theorem dX10_wants_20 : decode cX10_wants 20 = .ok (.putfield 153, 3) := by decide +kernel
theorem dX10_wants_23 : decode cX10_wants 23 = .ok (.return_, 1) := by decide +kernel
theorem dX10_digit_0 : decode cX10_digit 0 = .ok (.aload_n 0, 1) := by decide +kernel
theorem dX10_digit_1 : decode cX10_digit 1 = .ok (.getfield 153, 3) := by decide +kernel
theorem dX10_digit_4 : decode cX10_digit 4 = .ok (.ifCond .ge 27, 3) := by decide +kernel
theorem dX10_digit_7 : decode cX10_digit 7 = .ok (.aload_n 0, 1) := by decide +kernel
theorem dX10_digit_8 : decode cX10_digit 8 = .ok (.invokevirtual 156, 3) := by decide +kernel
theorem dX10_digit_11 : decode cX10_digit 11 = .ok (.bipush 48, 2) := by decide +kernel
theorem dX10_digit_13 : decode cX10_digit 13 = .ok (.bipush 48, 2) := by decide +kernel
theorem dX10_digit_15 : decode cX10_digit 15 = .ok (.iload_n 1, 1) := by decide +kernel
theorem dX10_digit_16 : decode cX10_digit 16 = .ok (.iadd, 1) := by decide +kernel
theorem dX10_digit_17 : decode cX10_digit 17 = .ok (.invokestatic 88, 3) := by decide +kernel
theorem dX10_digit_20 : decode cX10_digit 20 = .ok (.ifCond .ne 11, 3) := by decide +kernel
theorem dX10_digit_23 : decode cX10_digit 23 = .ok (.aload_n 0, 1) := by decide +kernel
theorem dX10_digit_24 : decode cX10_digit 24 = .ok (.aload_n 0, 1) := by decide +kernel
theorem dX10_digit_25 : decode cX10_digit 25 = .ok (.getfield 147, 3) := by decide +kernel
theorem dX10_digit_28 : decode cX10_digit 28 = .ok (.putfield 153, 3) := by decide +kernel
theorem dX10_digit_31 : decode cX10_digit 31 = .ok (.aload_n 0, 1) := by decide +kernel
theorem dX10_digit_32 : decode cX10_digit 32 = .ok (.getfield 153, 3) := by decide +kernel
theorem dX10_digit_35 : decode cX10_digit 35 = .ok (.ifCond .lt 5, 3) := by decide +kernel
theorem dX10_digit_38 : decode cX10_digit 38 = .ok (.iconst 0, 1) := by decide +kernel
theorem dX10_digit_39 : decode cX10_digit 39 = .ok (.ireturn, 1) := by decide +kernel
theorem dX10_digit_40 : decode cX10_digit 40 = .ok (.aload_n 0, 1) := by decide +kernel
theorem dX10_digit_41 : decode cX10_digit 41 = .ok (.dup, 1) := by decide +kernel
theorem dX10_digit_42 : decode cX10_digit 42 = .ok (.getfield 147, 3) := by decide +kernel
theorem dX10_digit_45 : decode cX10_digit 45 = .ok (.iconst 1, 1) := by decide +kernel
theorem dX10_digit_46 : decode cX10_digit 46 = .ok (.iadd, 1) := by decide +kernel
theorem dX10_digit_47 : decode cX10_digit 47 = .ok (.putfield 147, 3) := by decide +kernel
theorem dX10_digit_50 : decode cX10_digit 50 = .ok (.aload_n 0, 1) := by decide +kernel
theorem dX10_digit_51 : decode cX10_digit 51 = .ok (.getfield 29, 3) := by decide +kernel
theorem dX10_digit_54 : decode cX10_digit 54 = .ok (.aload_n 0, 1) := by decide +kernel
theorem dX10_digit_55 : decode cX10_digit 55 = .ok (.getfield 147, 3) := by decide +kernel
theorem dX10_digit_58 : decode cX10_digit 58 = .ok (.iconst 1, 1) := by decide +kernel
theorem dX10_digit_59 : decode cX10_digit 59 = .ok (.isub, 1) := by decide +kernel
theorem dX10_digit_60 : decode cX10_digit 60 = .ok (.iaload, 1) := by decide +kernel
theorem dX10_digit_61 : decode cX10_digit 61 = .ok (.bipush 48, 2) := by decide +kernel
theorem dX10_digit_63 : decode cX10_digit 63 = .ok (.isub, 1) := by decide +kernel
theorem dX10_digit_64 : decode cX10_digit 64 = .ok (.ireturn, 1) := by decide +kernel
theorem dX10_isLiteral_0 : decode cX10_isLiteral 0 = .ok (.iload_n 0, 1) := by decide +kernel
theorem dX10_isLiteral_1 : decode cX10_isLiteral 1 = .ok (.bipush 32, 2) := by decide +kernel
theorem dX10_isLiteral_3 : decode cX10_isLiteral 3 = .ok (.bipush 126, 2) := by decide +kernel
theorem dX10_isLiteral_5 : decode cX10_isLiteral 5 = .ok (.invokestatic 88, 3) := by decide +kernel
theorem dX10_isLiteral_8 : decode cX10_isLiteral 8 = .ok (.ifCond .eq 67, 3) := by decide +kernel
theorem dX10_isLiteral_11 : decode cX10_isLiteral 11 = .ok (.iload_n 0, 1) := by decide +kernel
theorem dX10_isLiteral_12 : decode cX10_isLiteral 12 = .ok (.bipush 35, 2) := by decide +kernel
theorem dX10_isLiteral_14 : decode cX10_isLiteral 14 = .ok (.if_icmp .eq 61, 3) := by decide +kernel
theorem dX10_isLiteral_17 : decode cX10_isLiteral 17 = .ok (.iload_n 0, 1) := by decide +kernel
theorem dX10_isLiteral_18 : decode cX10_isLiteral 18 = .ok (.bipush 64, 2) := by decide +kernel
theorem dX10_isLiteral_20 : decode cX10_isLiteral 20 = .ok (.if_icmp .eq 55, 3) := by decide +kernel
theorem dX10_isLiteral_23 : decode cX10_isLiteral 23 = .ok (.iload_n 0, 1) := by decide +kernel
theorem dX10_isLiteral_24 : decode cX10_isLiteral 24 = .ok (.bipush 123, 2) := by decide +kernel
theorem dX10_isLiteral_26 : decode cX10_isLiteral 26 = .ok (.if_icmp .eq 49, 3) := by decide +kernel
theorem dX10_isLiteral_29 : decode cX10_isLiteral 29 = .ok (.iload_n 0, 1) := by decide +kernel
theorem dX10_isLiteral_30 : decode cX10_isLiteral 30 = .ok (.bipush 125, 2) := by decide +kernel
theorem dX10_isLiteral_32 : decode cX10_isLiteral 32 = .ok (.if_icmp .eq 43, 3) := by decide +kernel
theorem dX10_isLiteral_35 : decode cX10_isLiteral 35 = .ok (.iload_n 0, 1) := by decide +kernel
theorem dX10_isLiteral_36 : decode cX10_isLiteral 36 = .ok (.bipush 60, 2) := by decide +kernel
theorem dX10_isLiteral_38 : decode cX10_isLiteral 38 = .ok (.if_icmp .eq 37, 3) := by decide +kernel
theorem dX10_isLiteral_41 : decode cX10_isLiteral 41 = .ok (.iload_n 0, 1) := by decide +kernel
theorem dX10_isLiteral_42 : decode cX10_isLiteral 42 = .ok (.bipush 62, 2) := by decide +kernel
theorem dX10_isLiteral_44 : decode cX10_isLiteral 44 = .ok (.if_icmp .eq 31, 3) := by decide +kernel
theorem dX10_isLiteral_47 : decode cX10_isLiteral 47 = .ok (.iload_n 0, 1) := by decide +kernel
theorem dX10_isLiteral_48 : decode cX10_isLiteral 48 = .ok (.bipush 124, 2) := by decide +kernel
theorem dX10_isLiteral_50 : decode cX10_isLiteral 50 = .ok (.if_icmp .eq 25, 3) := by decide +kernel
theorem dX10_isLiteral_53 : decode cX10_isLiteral 53 = .ok (.iload_n 0, 1) := by decide +kernel
theorem dX10_isLiteral_54 : decode cX10_isLiteral 54 = .ok (.bipush 91, 2) := by decide +kernel
theorem dX10_isLiteral_56 : decode cX10_isLiteral 56 = .ok (.if_icmp .eq 19, 3) := by decide +kernel
theorem dX10_isLiteral_59 : decode cX10_isLiteral 59 = .ok (.iload_n 0, 1) := by decide +kernel
theorem dX10_isLiteral_60 : decode cX10_isLiteral 60 = .ok (.bipush 93, 2) := by decide +kernel
theorem dX10_isLiteral_62 : decode cX10_isLiteral 62 = .ok (.if_icmp .eq 13, 3) := by decide +kernel
theorem dX10_isLiteral_65 : decode cX10_isLiteral 65 = .ok (.iload_n 0, 1) := by decide +kernel
theorem dX10_isLiteral_66 : decode cX10_isLiteral 66 = .ok (.bipush 47, 2) := by decide +kernel
theorem dX10_isLiteral_68 : decode cX10_isLiteral 68 = .ok (.if_icmp .eq 7, 3) := by decide +kernel
theorem dX10_isLiteral_71 : decode cX10_isLiteral 71 = .ok (.iconst 1, 1) := by decide +kernel
theorem dX10_isLiteral_72 : decode cX10_isLiteral 72 = .ok (.goto 4, 3) := by decide +kernel
theorem dX10_isLiteral_75 : decode cX10_isLiteral 75 = .ok (.iconst 0, 1) := by decide +kernel
theorem dX10_isLiteral_76 : decode cX10_isLiteral 76 = .ok (.ireturn, 1) := by decide +kernel
theorem dX10_lays_0 : decode cX10_lays 0 = .ok (.aload_n 0, 1) := by decide +kernel
theorem dX10_lays_1 : decode cX10_lays 1 = .ok (.getfield 32, 3) := by decide +kernel
theorem dX10_lays_4 : decode cX10_lays 4 = .ok (.aload_n 0, 1) := by decide +kernel
theorem dX10_lays_5 : decode cX10_lays 5 = .ok (.getfield 162, 3) := by decide +kernel
theorem dX10_lays_8 : decode cX10_lays 8 = .ok (.iload_n 1, 1) := by decide +kernel
theorem dX10_lays_9 : decode cX10_lays 9 = .ok (.iastore, 1) := by decide +kernel
theorem dX10_lays_10 : decode cX10_lays 10 = .ok (.aload_n 0, 1) := by decide +kernel
theorem dX10_lays_11 : decode cX10_lays 11 = .ok (.getfield 35, 3) := by decide +kernel
theorem dX10_lays_14 : decode cX10_lays 14 = .ok (.aload_n 0, 1) := by decide +kernel
theorem dX10_lays_15 : decode cX10_lays 15 = .ok (.getfield 162, 3) := by decide +kernel
theorem dX10_lays_18 : decode cX10_lays 18 = .ok (.iload_n 2, 1) := by decide +kernel
theorem dX10_lays_19 : decode cX10_lays 19 = .ok (.iastore, 1) := by decide +kernel
theorem dX10_lays_20 : decode cX10_lays 20 = .ok (.aload_n 0, 1) := by decide +kernel
theorem dX10_lays_21 : decode cX10_lays 21 = .ok (.getfield 38, 3) := by decide +kernel
theorem dX10_lays_24 : decode cX10_lays 24 = .ok (.aload_n 0, 1) := by decide +kernel
theorem dX10_lays_25 : decode cX10_lays 25 = .ok (.getfield 162, 3) := by decide +kernel
theorem dX10_lays_28 : decode cX10_lays 28 = .ok (.iconst 0, 1) := by decide +kernel
theorem dX10_lays_29 : decode cX10_lays 29 = .ok (.iastore, 1) := by decide +kernel
theorem dX10_lays_30 : decode cX10_lays 30 = .ok (.aload_n 0, 1) := by decide +kernel
theorem dX10_lays_31 : decode cX10_lays 31 = .ok (.getfield 41, 3) := by decide +kernel
theorem dX10_lays_34 : decode cX10_lays 34 = .ok (.aload_n 0, 1) := by decide +kernel
theorem dX10_lays_35 : decode cX10_lays 35 = .ok (.getfield 162, 3) := by decide +kernel
theorem dX10_lays_38 : decode cX10_lays 38 = .ok (.iconst 0, 1) := by decide +kernel
theorem dX10_lays_39 : decode cX10_lays 39 = .ok (.iastore, 1) := by decide +kernel
theorem dX10_lays_40 : decode cX10_lays 40 = .ok (.aload_n 0, 1) := by decide +kernel
theorem dX10_lays_41 : decode cX10_lays 41 = .ok (.dup, 1) := by decide +kernel
theorem dX10_lays_42 : decode cX10_lays 42 = .ok (.getfield 162, 3) := by decide +kernel
theorem dX10_lays_45 : decode cX10_lays 45 = .ok (.iconst 1, 1) := by decide +kernel
theorem dX10_lays_46 : decode cX10_lays 46 = .ok (.iadd, 1) := by decide +kernel
theorem dX10_lays_47 : decode cX10_lays 47 = .ok (.putfield 162, 3) := by decide +kernel
theorem dX10_lays_50 : decode cX10_lays 50 = .ok (.aload_n 0, 1) := by decide +kernel
theorem dX10_lays_51 : decode cX10_lays 51 = .ok (.getfield 162, 3) := by decide +kernel
theorem dX10_lays_54 : decode cX10_lays 54 = .ok (.iconst 1, 1) := by decide +kernel
theorem dX10_lays_55 : decode cX10_lays 55 = .ok (.isub, 1) := by decide +kernel
theorem dX10_lays_56 : decode cX10_lays 56 = .ok (.ireturn, 1) := by decide +kernel
theorem dX10_condition_0 : decode cX10_condition 0 = .ok (.aload_n 0, 1) := by decide +kernel
theorem dX10_condition_1 : decode cX10_condition 1 = .ok (.getfield 53, 3) := by decide +kernel
theorem dX10_condition_4 : decode cX10_condition 4 = .ok (.aload_n 0, 1) := by decide +kernel
theorem dX10_condition_5 : decode cX10_condition 5 = .ok (.getfield 165, 3) := by decide +kernel
theorem dX10_condition_8 : decode cX10_condition 8 = .ok (.aload_n 0, 1) := by decide +kernel
theorem dX10_condition_9 : decode cX10_condition 9 = .ok (.bipush 33, 2) := by decide +kernel
theorem dX10_condition_11 : decode cX10_condition 11 = .ok (.invokevirtual 159, 3) := by decide +kernel
theorem dX10_condition_14 : decode cX10_condition 14 = .ok (.bastore, 1) := by decide +kernel
theorem dX10_condition_15 : decode cX10_condition 15 = .ok (.iconst 0, 1) := by decide +kernel
theorem dX10_condition_16 : decode cX10_condition 16 = .ok (.istore_n 1, 1) := by decide +kernel
theorem dX10_condition_17 : decode cX10_condition 17 = .ok (.iconst 0, 1) := by decide +kernel
theorem dX10_condition_18 : decode cX10_condition 18 = .ok (.istore_n 2, 1) := by decide +kernel
theorem dX10_condition_19 : decode cX10_condition 19 = .ok (.aload_n 0, 1) := by decide +kernel
theorem dX10_condition_20 : decode cX10_condition 20 = .ok (.bipush 103, 2) := by decide +kernel
theorem dX10_condition_22 : decode cX10_condition 22 = .ok (.invokevirtual 159, 3) := by decide +kernel
theorem dX10_condition_25 : decode cX10_condition 25 = .ok (.ifCond .eq 15, 3) := by decide +kernel
theorem dX10_condition_28 : decode cX10_condition 28 = .ok (.iconst 1, 1) := by decide +kernel
theorem dX10_condition_29 : decode cX10_condition 29 = .ok (.istore_n 1, 1) := by decide +kernel
theorem dX10_condition_30 : decode cX10_condition 30 = .ok (.aload_n 0, 1) := by decide +kernel
theorem dX10_condition_31 : decode cX10_condition 31 = .ok (.bipush 9, 2) := by decide +kernel
theorem dX10_condition_33 : decode cX10_condition 33 = .ok (.invokevirtual 168, 3) := by decide +kernel
theorem dX10_condition_36 : decode cX10_condition 36 = .ok (.istore_n 2, 1) := by decide +kernel
theorem dX10_condition_37 : decode cX10_condition 37 = .ok (.goto 119, 3) := by decide +kernel
theorem dX10_condition_40 : decode cX10_condition 40 = .ok (.aload_n 0, 1) := by decide +kernel
theorem dX10_condition_41 : decode cX10_condition 41 = .ok (.bipush 110, 2) := by decide +kernel
theorem dX10_condition_43 : decode cX10_condition 43 = .ok (.invokevirtual 159, 3) := by decide +kernel
theorem dX10_condition_46 : decode cX10_condition 46 = .ok (.ifCond .eq 104, 3) := by decide +kernel
theorem dX10_condition_49 : decode cX10_condition 49 = .ok (.aload_n 0, 1) := by decide +kernel
theorem dX10_condition_50 : decode cX10_condition 50 = .ok (.invokevirtual 156, 3) := by decide +kernel
theorem dX10_condition_53 : decode cX10_condition 53 = .ok (.bipush 60, 2) := by decide +kernel
theorem dX10_condition_55 : decode cX10_condition 55 = .ok (.if_icmp .ne 7, 3) := by decide +kernel
theorem dX10_condition_58 : decode cX10_condition 58 = .ok (.iconst 2, 1) := by decide +kernel
theorem dX10_condition_59 : decode cX10_condition 59 = .ok (.goto 17, 3) := by decide +kernel
theorem dX10_condition_62 : decode cX10_condition 62 = .ok (.aload_n 0, 1) := by decide +kernel
theorem dX10_condition_63 : decode cX10_condition 63 = .ok (.invokevirtual 156, 3) := by decide +kernel
theorem dX10_condition_66 : decode cX10_condition 66 = .ok (.bipush 61, 2) := by decide +kernel
theorem dX10_condition_68 : decode cX10_condition 68 = .ok (.if_icmp .ne 7, 3) := by decide +kernel
theorem dX10_condition_71 : decode cX10_condition 71 = .ok (.iconst 3, 1) := by decide +kernel
theorem dX10_condition_72 : decode cX10_condition 72 = .ok (.goto 4, 3) := by decide +kernel
theorem dX10_condition_75 : decode cX10_condition 75 = .ok (.iconst 4, 1) := by decide +kernel
theorem dX10_condition_76 : decode cX10_condition 76 = .ok (.istore_n 1, 1) := by decide +kernel
theorem dX10_condition_77 : decode cX10_condition 77 = .ok (.aload_n 0, 1) := by decide +kernel
theorem dX10_condition_78 : decode cX10_condition 78 = .ok (.iload_n 1, 1) := by decide +kernel
theorem dX10_condition_79 : decode cX10_condition 79 = .ok (.iconst 2, 1) := by decide +kernel
theorem dX10_condition_80 : decode cX10_condition 80 = .ok (.if_icmp .ne 8, 3) := by decide +kernel
theorem dX10_condition_83 : decode cX10_condition 83 = .ok (.bipush 60, 2) := by decide +kernel
theorem dX10_condition_85 : decode cX10_condition 85 = .ok (.goto 15, 3) := by decide +kernel
theorem dX10_condition_88 : decode cX10_condition 88 = .ok (.iload_n 1, 1) := by decide +kernel
theorem dX10_condition_89 : decode cX10_condition 89 = .ok (.iconst 3, 1) := by decide +kernel
theorem dX10_condition_90 : decode cX10_condition 90 = .ok (.if_icmp .ne 8, 3) := by decide +kernel
theorem dX10_condition_93 : decode cX10_condition 93 = .ok (.bipush 61, 2) := by decide +kernel
theorem dX10_condition_95 : decode cX10_condition 95 = .ok (.goto 5, 3) := by decide +kernel
theorem dX10_condition_98 : decode cX10_condition 98 = .ok (.bipush 62, 2) := by decide +kernel
theorem dX10_condition_100 : decode cX10_condition 100 = .ok (.invokevirtual 171, 3) := by decide +kernel
theorem dX10_condition_103 : decode cX10_condition 103 = .ok (.aload_n 0, 1) := by decide +kernel
theorem dX10_condition_104 : decode cX10_condition 104 = .ok (.bipush 9, 2) := by decide +kernel
theorem dX10_condition_106 : decode cX10_condition 106 = .ok (.invokevirtual 168, 3) := by decide +kernel
theorem dX10_condition_109 : decode cX10_condition 109 = .ok (.istore_n 2, 1) := by decide +kernel
theorem dX10_condition_110 : decode cX10_condition 110 = .ok (.aload_n 0, 1) := by decide +kernel
theorem dX10_condition_111 : decode cX10_condition 111 = .ok (.getfield 153, 3) := by decide +kernel
theorem dX10_condition_114 : decode cX10_condition 114 = .ok (.ifCond .ge 42, 3) := by decide +kernel
theorem dX10_condition_117 : decode cX10_condition 117 = .ok (.iload_n 2, 1) := by decide +kernel
theorem dX10_condition_118 : decode cX10_condition 118 = .ok (.ifCond .eq 38, 3) := by decide +kernel
theorem dX10_condition_121 : decode cX10_condition 121 = .ok (.aload_n 0, 1) := by decide +kernel
theorem dX10_condition_122 : decode cX10_condition 122 = .ok (.invokevirtual 156, 3) := by decide +kernel
theorem dX10_condition_125 : decode cX10_condition 125 = .ok (.bipush 48, 2) := by decide +kernel
theorem dX10_condition_127 : decode cX10_condition 127 = .ok (.bipush 57, 2) := by decide +kernel
theorem dX10_condition_129 : decode cX10_condition 129 = .ok (.invokestatic 88, 3) := by decide +kernel
theorem dX10_condition_132 : decode cX10_condition 132 = .ok (.ifCond .eq 24, 3) := by decide +kernel
theorem dX10_condition_135 : decode cX10_condition 135 = .ok (.bipush 10, 2) := by decide +kernel
theorem dX10_condition_137 : decode cX10_condition 137 = .ok (.iload_n 2, 1) := by decide +kernel
theorem dX10_condition_138 : decode cX10_condition 138 = .ok (.imul, 1) := by decide +kernel
theorem dX10_condition_139 : decode cX10_condition 139 = .ok (.aload_n 0, 1) := by decide +kernel
theorem dX10_condition_140 : decode cX10_condition 140 = .ok (.bipush 9, 2) := by decide +kernel
theorem dX10_condition_142 : decode cX10_condition 142 = .ok (.invokevirtual 168, 3) := by decide +kernel
theorem dX10_condition_145 : decode cX10_condition 145 = .ok (.iadd, 1) := by decide +kernel
theorem dX10_condition_146 : decode cX10_condition 146 = .ok (.istore_n 2, 1) := by decide +kernel
theorem dX10_condition_147 : decode cX10_condition 147 = .ok (.goto 9, 3) := by decide +kernel
theorem dX10_condition_150 : decode cX10_condition 150 = .ok (.aload_n 0, 1) := by decide +kernel
theorem dX10_condition_151 : decode cX10_condition 151 = .ok (.iconst 4, 1) := by decide +kernel
theorem dX10_condition_152 : decode cX10_condition 152 = .ok (.invokevirtual 168, 3) := by decide +kernel
theorem dX10_condition_155 : decode cX10_condition 155 = .ok (.istore_n 2, 1) := by decide +kernel
theorem dX10_condition_156 : decode cX10_condition 156 = .ok (.aload_n 0, 1) := by decide +kernel
theorem dX10_condition_157 : decode cX10_condition 157 = .ok (.getfield 47, 3) := by decide +kernel
theorem dX10_condition_160 : decode cX10_condition 160 = .ok (.aload_n 0, 1) := by decide +kernel
theorem dX10_condition_161 : decode cX10_condition 161 = .ok (.getfield 165, 3) := by decide +kernel
theorem dX10_condition_164 : decode cX10_condition 164 = .ok (.iload_n 1, 1) := by decide +kernel
theorem dX10_condition_165 : decode cX10_condition 165 = .ok (.iastore, 1) := by decide +kernel
theorem dX10_condition_166 : decode cX10_condition 166 = .ok (.aload_n 0, 1) := by decide +kernel
theorem dX10_condition_167 : decode cX10_condition 167 = .ok (.getfield 50, 3) := by decide +kernel
theorem dX10_condition_170 : decode cX10_condition 170 = .ok (.aload_n 0, 1) := by decide +kernel
theorem dX10_condition_171 : decode cX10_condition 171 = .ok (.getfield 165, 3) := by decide +kernel
theorem dX10_condition_174 : decode cX10_condition 174 = .ok (.iload_n 2, 1) := by decide +kernel
theorem dX10_condition_175 : decode cX10_condition 175 = .ok (.iastore, 1) := by decide +kernel
theorem dX10_condition_176 : decode cX10_condition 176 = .ok (.aload_n 0, 1) := by decide +kernel
theorem dX10_condition_177 : decode cX10_condition 177 = .ok (.dup, 1) := by decide +kernel
theorem dX10_condition_178 : decode cX10_condition 178 = .ok (.getfield 165, 3) := by decide +kernel
theorem dX10_condition_181 : decode cX10_condition 181 = .ok (.iconst 1, 1) := by decide +kernel
theorem dX10_condition_182 : decode cX10_condition 182 = .ok (.iadd, 1) := by decide +kernel
theorem dX10_condition_183 : decode cX10_condition 183 = .ok (.putfield 165, 3) := by decide +kernel
theorem dX10_condition_186 : decode cX10_condition 186 = .ok (.return_, 1) := by decide +kernel
theorem dX10_bracket_0 : decode cX10_bracket 0 = .ok (.aload_n 0, 1) := by decide +kernel
theorem dX10_bracket_1 : decode cX10_bracket 1 = .ok (.getfield 175, 3) := by decide +kernel
theorem dX10_bracket_4 : decode cX10_bracket 4 = .ok (.iconst 4, 1) := by decide +kernel
theorem dX10_bracket_5 : decode cX10_bracket 5 = .ok (.if_icmp .ne 12, 3) := by decide +kernel
theorem dX10_bracket_8 : decode cX10_bracket 8 = .ok (.aload_n 0, 1) := by decide +kernel
theorem dX10_bracket_9 : decode cX10_bracket 9 = .ok (.aload_n 0, 1) := by decide +kernel
theorem dX10_bracket_10 : decode cX10_bracket 10 = .ok (.getfield 147, 3) := by decide +kernel
theorem dX10_bracket_13 : decode cX10_bracket 13 = .ok (.putfield 153, 3) := by decide +kernel
theorem dX10_bracket_16 : decode cX10_bracket 16 = .ok (.return_, 1) := by decide +kernel
theorem dX10_bracket_17 : decode cX10_bracket 17 = .ok (.aload_n 0, 1) := by decide +kernel
theorem dX10_bracket_18 : decode cX10_bracket 18 = .ok (.iconst 5, 1) := by decide +kernel
theorem dX10_bracket_19 : decode cX10_bracket 19 = .ok (.aload_n 0, 1) := by decide +kernel
theorem dX10_bracket_20 : decode cX10_bracket 20 = .ok (.getfield 147, 3) := by decide +kernel
theorem dX10_bracket_23 : decode cX10_bracket 23 = .ok (.invokevirtual 178, 3) := by decide +kernel
theorem dX10_bracket_26 : decode cX10_bracket 26 = .ok (.istore_n 1, 1) := by decide +kernel
theorem dX10_bracket_27 : decode cX10_bracket 27 = .ok (.aload_n 0, 1) := by decide +kernel
theorem dX10_bracket_28 : decode cX10_bracket 28 = .ok (.dup, 1) := by decide +kernel
theorem dX10_bracket_29 : decode cX10_bracket 29 = .ok (.getfield 147, 3) := by decide +kernel
theorem dX10_bracket_32 : decode cX10_bracket 32 = .ok (.iconst 1, 1) := by decide +kernel
theorem dX10_bracket_33 : decode cX10_bracket 33 = .ok (.iadd, 1) := by decide +kernel
theorem dX10_bracket_34 : decode cX10_bracket 34 = .ok (.putfield 147, 3) := by decide +kernel
theorem dX10_bracket_37 : decode cX10_bracket 37 = .ok (.aload_n 0, 1) := by decide +kernel
theorem dX10_bracket_38 : decode cX10_bracket 38 = .ok (.dup, 1) := by decide +kernel
theorem dX10_bracket_39 : decode cX10_bracket 39 = .ok (.getfield 175, 3) := by decide +kernel
theorem dX10_bracket_42 : decode cX10_bracket 42 = .ok (.iconst 1, 1) := by decide +kernel
theorem dX10_bracket_43 : decode cX10_bracket 43 = .ok (.iadd, 1) := by decide +kernel
theorem dX10_bracket_44 : decode cX10_bracket 44 = .ok (.putfield 175, 3) := by decide +kernel
theorem dX10_bracket_47 : decode cX10_bracket 47 = .ok (.aload_n 0, 1) := by decide +kernel
theorem dX10_bracket_48 : decode cX10_bracket 48 = .ok (.aload_n 0, 1) := by decide +kernel
theorem dX10_bracket_49 : decode cX10_bracket 49 = .ok (.getfield 175, 3) := by decide +kernel
theorem dX10_bracket_52 : decode cX10_bracket 52 = .ok (.aload_n 0, 1) := by decide +kernel
theorem dX10_bracket_53 : decode cX10_bracket 53 = .ok (.getfield 181, 3) := by decide +kernel
theorem dX10_bracket_56 : decode cX10_bracket 56 = .ok (.if_icmp .le 10, 3) := by decide +kernel
theorem dX10_bracket_59 : decode cX10_bracket 59 = .ok (.aload_n 0, 1) := by decide +kernel
theorem dX10_bracket_60 : decode cX10_bracket 60 = .ok (.getfield 175, 3) := by decide +kernel
theorem dX10_bracket_63 : decode cX10_bracket 63 = .ok (.goto 7, 3) := by decide +kernel
theorem dX10_bracket_66 : decode cX10_bracket 66 = .ok (.aload_n 0, 1) := by decide +kernel
theorem dX10_bracket_67 : decode cX10_bracket 67 = .ok (.getfield 181, 3) := by decide +kernel
theorem dX10_bracket_70 : decode cX10_bracket 70 = .ok (.putfield 181, 3) := by decide +kernel
theorem dX10_bracket_73 : decode cX10_bracket 73 = .ok (.aload_n 0, 1) := by decide +kernel
theorem dX10_bracket_74 : decode cX10_bracket 74 = .ok (.getfield 38, 3) := by decide +kernel
theorem dX10_bracket_77 : decode cX10_bracket 77 = .ok (.iload_n 1, 1) := by decide +kernel
theorem dX10_bracket_78 : decode cX10_bracket 78 = .ok (.aload_n 0, 1) := by decide +kernel
theorem dX10_bracket_79 : decode cX10_bracket 79 = .ok (.getfield 165, 3) := by decide +kernel
theorem dX10_bracket_82 : decode cX10_bracket 82 = .ok (.iastore, 1) := by decide +kernel
theorem dX10_bracket_83 : decode cX10_bracket 83 = .ok (.aload_n 0, 1) := by decide +kernel
theorem dX10_bracket_84 : decode cX10_bracket 84 = .ok (.invokevirtual 184, 3) := by decide +kernel
theorem dX10_bracket_87 : decode cX10_bracket 87 = .ok (.aload_n 0, 1) := by decide +kernel
theorem dX10_bracket_88 : decode cX10_bracket 88 = .ok (.bipush 38, 2) := by decide +kernel
theorem dX10_bracket_90 : decode cX10_bracket 90 = .ok (.invokevirtual 159, 3) := by decide +kernel
theorem dX10_bracket_93 : decode cX10_bracket 93 = .ok (.ifCond .eq 10, 3) := by decide +kernel
theorem dX10_bracket_96 : decode cX10_bracket 96 = .ok (.aload_n 0, 1) := by decide +kernel
theorem dX10_bracket_97 : decode cX10_bracket 97 = .ok (.invokevirtual 184, 3) := by decide +kernel
theorem dX10_bracket_100 : decode cX10_bracket 100 = .ok (.goto (-13), 3) := by decide +kernel
theorem dX10_bracket_103 : decode cX10_bracket 103 = .ok (.aload_n 0, 1) := by decide +kernel
theorem dX10_bracket_104 : decode cX10_bracket 104 = .ok (.getfield 41, 3) := by decide +kernel
theorem dX10_bracket_107 : decode cX10_bracket 107 = .ok (.iload_n 1, 1) := by decide +kernel
theorem dX10_bracket_108 : decode cX10_bracket 108 = .ok (.aload_n 0, 1) := by decide +kernel
theorem dX10_bracket_109 : decode cX10_bracket 109 = .ok (.getfield 165, 3) := by decide +kernel
theorem dX10_bracket_112 : decode cX10_bracket 112 = .ok (.iastore, 1) := by decide +kernel
theorem dX10_bracket_113 : decode cX10_bracket 113 = .ok (.aload_n 0, 1) := by decide +kernel
theorem dX10_bracket_114 : decode cX10_bracket 114 = .ok (.bipush 58, 2) := by decide +kernel
theorem dX10_bracket_116 : decode cX10_bracket 116 = .ok (.invokevirtual 171, 3) := by decide +kernel
theorem dX10_bracket_119 : decode cX10_bracket 119 = .ok (.aload_n 0, 1) := by decide +kernel
theorem dX10_bracket_120 : decode cX10_bracket 120 = .ok (.getfield 153, 3) := by decide +kernel
theorem dX10_bracket_123 : decode cX10_bracket 123 = .ok (.ifCond .ge 26, 3) := by decide +kernel
theorem dX10_bracket_126 : decode cX10_bracket 126 = .ok (.aload_n 0, 1) := by decide +kernel
theorem dX10_bracket_127 : decode cX10_bracket 127 = .ok (.invokevirtual 156, 3) := by decide +kernel
theorem dX10_bracket_130 : decode cX10_bracket 130 = .ok (.ifCond .lt 19, 3) := by decide +kernel
theorem dX10_bracket_133 : decode cX10_bracket 133 = .ok (.aload_n 0, 1) := by decide +kernel
theorem dX10_bracket_134 : decode cX10_bracket 134 = .ok (.invokevirtual 156, 3) := by decide +kernel
theorem dX10_bracket_137 : decode cX10_bracket 137 = .ok (.bipush 93, 2) := by decide +kernel
theorem dX10_bracket_139 : decode cX10_bracket 139 = .ok (.if_icmp .eq 10, 3) := by decide +kernel
theorem dX10_bracket_142 : decode cX10_bracket 142 = .ok (.aload_n 0, 1) := by decide +kernel
theorem dX10_bracket_143 : decode cX10_bracket 143 = .ok (.invokevirtual 187, 3) := by decide +kernel
theorem dX10_bracket_146 : decode cX10_bracket 146 = .ok (.goto (-27), 3) := by decide +kernel
theorem dX10_bracket_149 : decode cX10_bracket 149 = .ok (.aload_n 0, 1) := by decide +kernel
theorem dX10_bracket_150 : decode cX10_bracket 150 = .ok (.bipush 93, 2) := by decide +kernel
theorem dX10_bracket_152 : decode cX10_bracket 152 = .ok (.invokevirtual 171, 3) := by decide +kernel
theorem dX10_bracket_155 : decode cX10_bracket 155 = .ok (.aload_n 0, 1) := by decide +kernel
theorem dX10_bracket_156 : decode cX10_bracket 156 = .ok (.dup, 1) := by decide +kernel
theorem dX10_bracket_157 : decode cX10_bracket 157 = .ok (.getfield 175, 3) := by decide +kernel
theorem dX10_bracket_160 : decode cX10_bracket 160 = .ok (.iconst 1, 1) := by decide +kernel
theorem dX10_bracket_161 : decode cX10_bracket 161 = .ok (.isub, 1) := by decide +kernel
theorem dX10_bracket_162 : decode cX10_bracket 162 = .ok (.putfield 175, 3) := by decide +kernel
theorem dX10_bracket_165 : decode cX10_bracket 165 = .ok (.aload_n 0, 1) := by decide +kernel
theorem dX10_bracket_166 : decode cX10_bracket 166 = .ok (.getfield 44, 3) := by decide +kernel
theorem dX10_bracket_169 : decode cX10_bracket 169 = .ok (.iload_n 1, 1) := by decide +kernel
theorem dX10_bracket_170 : decode cX10_bracket 170 = .ok (.aload_n 0, 1) := by decide +kernel
theorem dX10_bracket_171 : decode cX10_bracket 171 = .ok (.getfield 162, 3) := by decide +kernel
theorem dX10_bracket_174 : decode cX10_bracket 174 = .ok (.iastore, 1) := by decide +kernel
theorem dX10_bracket_175 : decode cX10_bracket 175 = .ok (.return_, 1) := by decide +kernel
theorem dX10_item_0 : decode cX10_item 0 = .ok (.aload_n 0, 1) := by decide +kernel
theorem dX10_item_1 : decode cX10_item 1 = .ok (.invokevirtual 156, 3) := by decide +kernel
theorem dX10_item_4 : decode cX10_item 4 = .ok (.istore_n 1, 1) := by decide +kernel
theorem dX10_item_5 : decode cX10_item 5 = .ok (.iload_n 1, 1) := by decide +kernel
theorem dX10_item_6 : decode cX10_item 6 = .ok (.bipush 91, 2) := by decide +kernel
theorem dX10_item_8 : decode cX10_item 8 = .ok (.if_icmp .ne 8, 3) := by decide +kernel
theorem dX10_item_11 : decode cX10_item 11 = .ok (.aload_n 0, 1) := by decide +kernel
theorem dX10_item_12 : decode cX10_item 12 = .ok (.invokevirtual 190, 3) := by decide +kernel
theorem dX10_item_15 : decode cX10_item 15 = .ok (.return_, 1) := by decide +kernel
theorem dX10_item_16 : decode cX10_item 16 = .ok (.iload_n 1, 1) := by decide +kernel
theorem dX10_item_17 : decode cX10_item 17 = .ok (.bipush 35, 2) := by decide +kernel
theorem dX10_item_19 : decode cX10_item 19 = .ok (.if_icmp .ne 7, 3) := by decide +kernel
theorem dX10_item_22 : decode cX10_item 22 = .ok (.iconst 1, 1) := by decide +kernel
theorem dX10_item_23 : decode cX10_item 23 = .ok (.goto 45, 3) := by decide +kernel
theorem dX10_item_26 : decode cX10_item 26 = .ok (.iload_n 1, 1) := by decide +kernel
theorem dX10_item_27 : decode cX10_item 27 = .ok (.bipush 64, 2) := by decide +kernel
theorem dX10_item_29 : decode cX10_item 29 = .ok (.if_icmp .ne 7, 3) := by decide +kernel
theorem dX10_item_32 : decode cX10_item 32 = .ok (.iconst 2, 1) := by decide +kernel
theorem dX10_item_33 : decode cX10_item 33 = .ok (.goto 35, 3) := by decide +kernel
theorem dX10_item_36 : decode cX10_item 36 = .ok (.iload_n 1, 1) := by decide +kernel
theorem dX10_item_37 : decode cX10_item 37 = .ok (.bipush 123, 2) := by decide +kernel
theorem dX10_item_39 : decode cX10_item 39 = .ok (.if_icmp .ne 7, 3) := by decide +kernel
theorem dX10_item_42 : decode cX10_item 42 = .ok (.iconst 3, 1) := by decide +kernel
theorem dX10_item_43 : decode cX10_item 43 = .ok (.goto 25, 3) := by decide +kernel
theorem dX10_item_46 : decode cX10_item 46 = .ok (.iload_n 1, 1) := by decide +kernel
theorem dX10_item_47 : decode cX10_item 47 = .ok (.bipush 60, 2) := by decide +kernel
theorem dX10_item_49 : decode cX10_item 49 = .ok (.if_icmp .ne 7, 3) := by decide +kernel
theorem dX10_item_52 : decode cX10_item 52 = .ok (.iconst 4, 1) := by decide +kernel
theorem dX10_item_53 : decode cX10_item 53 = .ok (.goto 15, 3) := by decide +kernel
theorem dX10_item_56 : decode cX10_item 56 = .ok (.iload_n 1, 1) := by decide +kernel
theorem dX10_item_57 : decode cX10_item 57 = .ok (.invokestatic 193, 3) := by decide +kernel
theorem dX10_item_60 : decode cX10_item 60 = .ok (.ifCond .eq 7, 3) := by decide +kernel
theorem dX10_item_63 : decode cX10_item 63 = .ok (.iconst 0, 1) := by decide +kernel
theorem dX10_item_64 : decode cX10_item 64 = .ok (.goto 4, 3) := by decide +kernel
theorem dX10_item_67 : decode cX10_item 67 = .ok (.iconst (-1), 1) := by decide +kernel
theorem dX10_item_68 : decode cX10_item 68 = .ok (.istore_n 2, 1) := by decide +kernel
theorem dX10_item_69 : decode cX10_item 69 = .ok (.iload_n 2, 1) := by decide +kernel
theorem dX10_item_70 : decode cX10_item 70 = .ok (.ifCond .ge 12, 3) := by decide +kernel
theorem dX10_item_73 : decode cX10_item 73 = .ok (.aload_n 0, 1) := by decide +kernel
theorem dX10_item_74 : decode cX10_item 74 = .ok (.aload_n 0, 1) := by decide +kernel
theorem dX10_item_75 : decode cX10_item 75 = .ok (.getfield 147, 3) := by decide +kernel
theorem dX10_item_78 : decode cX10_item 78 = .ok (.putfield 153, 3) := by decide +kernel
theorem dX10_item_81 : decode cX10_item 81 = .ok (.return_, 1) := by decide +kernel
theorem dX10_item_82 : decode cX10_item 82 = .ok (.aload_n 0, 1) := by decide +kernel
theorem dX10_item_83 : decode cX10_item 83 = .ok (.iload_n 2, 1) := by decide +kernel
theorem dX10_item_84 : decode cX10_item 84 = .ok (.aload_n 0, 1) := by decide +kernel
theorem dX10_item_85 : decode cX10_item 85 = .ok (.getfield 147, 3) := by decide +kernel
theorem dX10_item_88 : decode cX10_item 88 = .ok (.invokevirtual 178, 3) := by decide +kernel
theorem dX10_item_91 : decode cX10_item 91 = .ok (.istore_n 3, 1) := by decide +kernel
theorem dX10_item_92 : decode cX10_item 92 = .ok (.aload_n 0, 1) := by decide +kernel
theorem dX10_item_93 : decode cX10_item 93 = .ok (.dup, 1) := by decide +kernel
theorem dX10_item_94 : decode cX10_item 94 = .ok (.getfield 147, 3) := by decide +kernel
theorem dX10_item_97 : decode cX10_item 97 = .ok (.iconst 1, 1) := by decide +kernel
theorem dX10_item_98 : decode cX10_item 98 = .ok (.iadd, 1) := by decide +kernel
theorem dX10_item_99 : decode cX10_item 99 = .ok (.putfield 147, 3) := by decide +kernel
theorem dX10_item_102 : decode cX10_item 102 = .ok (.iload_n 2, 1) := by decide +kernel
theorem dX10_item_103 : decode cX10_item 103 = .ok (.ifCond .ne 10, 3) := by decide +kernel
theorem dX10_item_106 : decode cX10_item 106 = .ok (.aload_n 0, 1) := by decide +kernel
theorem dX10_item_107 : decode cX10_item 107 = .ok (.getfield 38, 3) := by decide +kernel
theorem dX10_item_110 : decode cX10_item 110 = .ok (.iload_n 3, 1) := by decide +kernel
theorem dX10_item_111 : decode cX10_item 111 = .ok (.iload_n 1, 1) := by decide +kernel
theorem dX10_item_112 : decode cX10_item 112 = .ok (.iastore, 1) := by decide +kernel
theorem dX10_item_113 : decode cX10_item 113 = .ok (.iload_n 2, 1) := by decide +kernel
theorem dX10_item_114 : decode cX10_item 114 = .ok (.iconst 3, 1) := by decide +kernel
theorem dX10_item_115 : decode cX10_item 115 = .ok (.if_icmp .ne 53, 3) := by decide +kernel
theorem dX10_item_118 : decode cX10_item 118 = .ok (.aload_n 0, 1) := by decide +kernel
theorem dX10_item_119 : decode cX10_item 119 = .ok (.getfield 38, 3) := by decide +kernel
theorem dX10_item_122 : decode cX10_item 122 = .ok (.iload_n 3, 1) := by decide +kernel
theorem dX10_item_123 : decode cX10_item 123 = .ok (.aload_n 0, 1) := by decide +kernel
theorem dX10_item_124 : decode cX10_item 124 = .ok (.iconst 4, 1) := by decide +kernel
theorem dX10_item_125 : decode cX10_item 125 = .ok (.invokevirtual 168, 3) := by decide +kernel
theorem dX10_item_128 : decode cX10_item 128 = .ok (.iastore, 1) := by decide +kernel
theorem dX10_item_129 : decode cX10_item 129 = .ok (.aload_n 0, 1) := by decide +kernel
theorem dX10_item_130 : decode cX10_item 130 = .ok (.getfield 41, 3) := by decide +kernel
theorem dX10_item_133 : decode cX10_item 133 = .ok (.iload_n 3, 1) := by decide +kernel
theorem dX10_item_134 : decode cX10_item 134 = .ok (.aload_n 0, 1) := by decide +kernel
theorem dX10_item_135 : decode cX10_item 135 = .ok (.bipush 94, 2) := by decide +kernel
theorem dX10_item_137 : decode cX10_item 137 = .ok (.invokevirtual 159, 3) := by decide +kernel
theorem dX10_item_140 : decode cX10_item 140 = .ok (.ifCond .eq 7, 3) := by decide +kernel
theorem dX10_item_143 : decode cX10_item 143 = .ok (.iconst 1, 1) := by decide +kernel
theorem dX10_item_144 : decode cX10_item 144 = .ok (.goto 17, 3) := by decide +kernel
theorem dX10_item_147 : decode cX10_item 147 = .ok (.aload_n 0, 1) := by decide +kernel
theorem dX10_item_148 : decode cX10_item 148 = .ok (.bipush 42, 2) := by decide +kernel
theorem dX10_item_150 : decode cX10_item 150 = .ok (.invokevirtual 159, 3) := by decide +kernel
theorem dX10_item_153 : decode cX10_item 153 = .ok (.ifCond .eq 7, 3) := by decide +kernel
theorem dX10_item_156 : decode cX10_item 156 = .ok (.iconst 2, 1) := by decide +kernel
theorem dX10_item_157 : decode cX10_item 157 = .ok (.goto 4, 3) := by decide +kernel
theorem dX10_item_160 : decode cX10_item 160 = .ok (.iconst 0, 1) := by decide +kernel
theorem dX10_item_161 : decode cX10_item 161 = .ok (.iastore, 1) := by decide +kernel
theorem dX10_item_162 : decode cX10_item 162 = .ok (.aload_n 0, 1) := by decide +kernel
theorem dX10_item_163 : decode cX10_item 163 = .ok (.bipush 125, 2) := by decide +kernel
theorem dX10_item_165 : decode cX10_item 165 = .ok (.invokevirtual 171, 3) := by decide +kernel
theorem dX10_item_168 : decode cX10_item 168 = .ok (.iload_n 2, 1) := by decide +kernel
theorem dX10_item_169 : decode cX10_item 169 = .ok (.iconst 4, 1) := by decide +kernel
theorem dX10_item_170 : decode cX10_item 170 = .ok (.if_icmp .ne 95, 3) := by decide +kernel
theorem dX10_item_173 : decode cX10_item 173 = .ok (.aload_n 0, 1) := by decide +kernel
theorem dX10_item_174 : decode cX10_item 174 = .ok (.getfield 153, 3) := by decide +kernel
theorem dX10_item_177 : decode cX10_item 177 = .ok (.ifCond .ge 26, 3) := by decide +kernel
theorem dX10_item_180 : decode cX10_item 180 = .ok (.aload_n 0, 1) := by decide +kernel
theorem dX10_item_181 : decode cX10_item 181 = .ok (.invokevirtual 156, 3) := by decide +kernel
theorem dX10_item_184 : decode cX10_item 184 = .ok (.invokestatic 193, 3) := by decide +kernel
theorem dX10_item_187 : decode cX10_item 187 = .ok (.ifCond .eq 16, 3) := by decide +kernel
theorem dX10_item_190 : decode cX10_item 190 = .ok (.aload_n 0, 1) := by decide +kernel
theorem dX10_item_191 : decode cX10_item 191 = .ok (.dup, 1) := by decide +kernel
theorem dX10_item_192 : decode cX10_item 192 = .ok (.getfield 147, 3) := by decide +kernel
theorem dX10_item_195 : decode cX10_item 195 = .ok (.iconst 1, 1) := by decide +kernel
theorem dX10_item_196 : decode cX10_item 196 = .ok (.iadd, 1) := by decide +kernel
theorem dX10_item_197 : decode cX10_item 197 = .ok (.putfield 147, 3) := by decide +kernel
theorem dX10_item_200 : decode cX10_item 200 = .ok (.goto (-27), 3) := by decide +kernel
theorem dX10_item_203 : decode cX10_item 203 = .ok (.aload_n 0, 1) := by decide +kernel
theorem dX10_item_204 : decode cX10_item 204 = .ok (.getfield 38, 3) := by decide +kernel
theorem dX10_item_207 : decode cX10_item 207 = .ok (.iload_n 3, 1) := by decide +kernel
theorem dX10_item_208 : decode cX10_item 208 = .ok (.aload_n 0, 1) := by decide +kernel
theorem dX10_item_209 : decode cX10_item 209 = .ok (.getfield 147, 3) := by decide +kernel
theorem dX10_item_212 : decode cX10_item 212 = .ok (.iastore, 1) := by decide +kernel
theorem dX10_item_213 : decode cX10_item 213 = .ok (.aload_n 0, 1) := by decide +kernel
theorem dX10_item_214 : decode cX10_item 214 = .ok (.bipush 124, 2) := by decide +kernel
theorem dX10_item_216 : decode cX10_item 216 = .ok (.invokevirtual 171, 3) := by decide +kernel
theorem dX10_item_219 : decode cX10_item 219 = .ok (.aload_n 0, 1) := by decide +kernel
theorem dX10_item_220 : decode cX10_item 220 = .ok (.getfield 153, 3) := by decide +kernel
theorem dX10_item_223 : decode cX10_item 223 = .ok (.ifCond .ge 26, 3) := by decide +kernel
theorem dX10_item_226 : decode cX10_item 226 = .ok (.aload_n 0, 1) := by decide +kernel
theorem dX10_item_227 : decode cX10_item 227 = .ok (.invokevirtual 156, 3) := by decide +kernel
theorem dX10_item_230 : decode cX10_item 230 = .ok (.invokestatic 193, 3) := by decide +kernel
theorem dX10_item_233 : decode cX10_item 233 = .ok (.ifCond .eq 16, 3) := by decide +kernel
theorem dX10_item_236 : decode cX10_item 236 = .ok (.aload_n 0, 1) := by decide +kernel
theorem dX10_item_237 : decode cX10_item 237 = .ok (.dup, 1) := by decide +kernel
theorem dX10_item_238 : decode cX10_item 238 = .ok (.getfield 147, 3) := by decide +kernel
theorem dX10_item_241 : decode cX10_item 241 = .ok (.iconst 1, 1) := by decide +kernel
theorem dX10_item_242 : decode cX10_item 242 = .ok (.iadd, 1) := by decide +kernel
theorem dX10_item_243 : decode cX10_item 243 = .ok (.putfield 147, 3) := by decide +kernel
theorem dX10_item_246 : decode cX10_item 246 = .ok (.goto (-27), 3) := by decide +kernel
theorem dX10_item_249 : decode cX10_item 249 = .ok (.aload_n 0, 1) := by decide +kernel
theorem dX10_item_250 : decode cX10_item 250 = .ok (.getfield 41, 3) := by decide +kernel
theorem dX10_item_253 : decode cX10_item 253 = .ok (.iload_n 3, 1) := by decide +kernel
theorem dX10_item_254 : decode cX10_item 254 = .ok (.aload_n 0, 1) := by decide +kernel
theorem dX10_item_255 : decode cX10_item 255 = .ok (.getfield 147, 3) := by decide +kernel
theorem dX10_item_258 : decode cX10_item 258 = .ok (.iastore, 1) := by decide +kernel
theorem dX10_item_259 : decode cX10_item 259 = .ok (.aload_n 0, 1) := by decide +kernel
theorem dX10_item_260 : decode cX10_item 260 = .ok (.bipush 62, 2) := by decide +kernel
theorem dX10_item_262 : decode cX10_item 262 = .ok (.invokevirtual 171, 3) := by decide +kernel
theorem dX10_item_265 : decode cX10_item 265 = .ok (.aload_n 0, 1) := by decide +kernel
theorem dX10_item_266 : decode cX10_item 266 = .ok (.getfield 44, 3) := by decide +kernel
theorem dX10_item_269 : decode cX10_item 269 = .ok (.iload_n 3, 1) := by decide +kernel
theorem dX10_item_270 : decode cX10_item 270 = .ok (.aload_n 0, 1) := by decide +kernel
theorem dX10_item_271 : decode cX10_item 271 = .ok (.getfield 162, 3) := by decide +kernel
theorem dX10_item_274 : decode cX10_item 274 = .ok (.iastore, 1) := by decide +kernel
theorem dX10_item_275 : decode cX10_item 275 = .ok (.return_, 1) := by decide +kernel
theorem dX10_reads_0 : decode cX10_reads 0 = .ok (.aload_n 0, 1) := by decide +kernel
theorem dX10_reads_1 : decode cX10_reads 1 = .ok (.iconst 0, 1) := by decide +kernel
theorem dX10_reads_2 : decode cX10_reads 2 = .ok (.putfield 147, 3) := by decide +kernel
theorem dX10_reads_5 : decode cX10_reads 5 = .ok (.aload_n 0, 1) := by decide +kernel
theorem dX10_reads_6 : decode cX10_reads 6 = .ok (.iconst (-1), 1) := by decide +kernel
theorem dX10_reads_7 : decode cX10_reads 7 = .ok (.putfield 153, 3) := by decide +kernel
theorem dX10_reads_10 : decode cX10_reads 10 = .ok (.aload_n 0, 1) := by decide +kernel
theorem dX10_reads_11 : decode cX10_reads 11 = .ok (.iconst 0, 1) := by decide +kernel
theorem dX10_reads_12 : decode cX10_reads 12 = .ok (.putfield 175, 3) := by decide +kernel
theorem dX10_reads_15 : decode cX10_reads 15 = .ok (.aload_n 0, 1) := by decide +kernel
theorem dX10_reads_16 : decode cX10_reads 16 = .ok (.iconst 0, 1) := by decide +kernel
theorem dX10_reads_17 : decode cX10_reads 17 = .ok (.putfield 181, 3) := by decide +kernel
theorem dX10_reads_20 : decode cX10_reads 20 = .ok (.aload_n 0, 1) := by decide +kernel
theorem dX10_reads_21 : decode cX10_reads 21 = .ok (.iconst 0, 1) := by decide +kernel
theorem dX10_reads_22 : decode cX10_reads 22 = .ok (.putfield 162, 3) := by decide +kernel
theorem dX10_reads_25 : decode cX10_reads 25 = .ok (.aload_n 0, 1) := by decide +kernel
theorem dX10_reads_26 : decode cX10_reads 26 = .ok (.iconst 0, 1) := by decide +kernel
theorem dX10_reads_27 : decode cX10_reads 27 = .ok (.putfield 165, 3) := by decide +kernel
theorem dX10_reads_30 : decode cX10_reads 30 = .ok (.aload_n 0, 1) := by decide +kernel
theorem dX10_reads_31 : decode cX10_reads 31 = .ok (.getfield 153, 3) := by decide +kernel
theorem dX10_reads_34 : decode cX10_reads 34 = .ok (.ifCond .ge 21, 3) := by decide +kernel
theorem dX10_reads_37 : decode cX10_reads 37 = .ok (.aload_n 0, 1) := by decide +kernel
theorem dX10_reads_38 : decode cX10_reads 38 = .ok (.getfield 147, 3) := by decide +kernel
theorem dX10_reads_41 : decode cX10_reads 41 = .ok (.aload_n 0, 1) := by decide +kernel
theorem dX10_reads_42 : decode cX10_reads 42 = .ok (.getfield 150, 3) := by decide +kernel
theorem dX10_reads_45 : decode cX10_reads 45 = .ok (.if_icmp .ge 10, 3) := by decide +kernel
theorem dX10_reads_48 : decode cX10_reads 48 = .ok (.aload_n 0, 1) := by decide +kernel
theorem dX10_reads_49 : decode cX10_reads 49 = .ok (.invokevirtual 187, 3) := by decide +kernel
theorem dX10_reads_52 : decode cX10_reads 52 = .ok (.goto (-22), 3) := by decide +kernel
theorem dX10_reads_55 : decode cX10_reads 55 = .ok (.return_, 1) := by decide +kernel
theorem dX10_readsTemplate_0 : decode cX10_readsTemplate 0 = .ok (.aload_n 0, 1) := by decide +kernel
theorem dX10_readsTemplate_1 : decode cX10_readsTemplate 1 = .ok (.aload_n 0, 1) := by decide +kernel
theorem dX10_readsTemplate_2 : decode cX10_readsTemplate 2 = .ok (.getfield 9, 3) := by decide +kernel
theorem dX10_readsTemplate_5 : decode cX10_readsTemplate 5 = .ok (.bipush 18, 2) := by decide +kernel
theorem dX10_readsTemplate_7 : decode cX10_readsTemplate 7 = .ok (.iaload, 1) := by decide +kernel
theorem dX10_readsTemplate_8 : decode cX10_readsTemplate 8 = .ok (.putfield 150, 3) := by decide +kernel
theorem dX10_readsTemplate_11 : decode cX10_readsTemplate 11 = .ok (.iconst 0, 1) := by decide +kernel
theorem dX10_readsTemplate_12 : decode cX10_readsTemplate 12 = .ok (.istore_n 1, 1) := by decide +kernel
theorem dX10_readsTemplate_13 : decode cX10_readsTemplate 13 = .ok (.iload_n 1, 1) := by decide +kernel
theorem dX10_readsTemplate_14 : decode cX10_readsTemplate 14 = .ok (.aload_n 0, 1) := by decide +kernel
theorem dX10_readsTemplate_15 : decode cX10_readsTemplate 15 = .ok (.getfield 150, 3) := by decide +kernel
theorem dX10_readsTemplate_18 : decode cX10_readsTemplate 18 = .ok (.if_icmp .ge 24, 3) := by decide +kernel
theorem dX10_readsTemplate_21 : decode cX10_readsTemplate 21 = .ok (.aload_n 0, 1) := by decide +kernel
theorem dX10_readsTemplate_22 : decode cX10_readsTemplate 22 = .ok (.getfield 29, 3) := by decide +kernel
theorem dX10_readsTemplate_25 : decode cX10_readsTemplate 25 = .ok (.iload_n 1, 1) := by decide +kernel
theorem dX10_readsTemplate_26 : decode cX10_readsTemplate 26 = .ok (.aload_n 0, 1) := by decide +kernel
theorem dX10_readsTemplate_27 : decode cX10_readsTemplate 27 = .ok (.getfield 9, 3) := by decide +kernel
theorem dX10_readsTemplate_30 : decode cX10_readsTemplate 30 = .ok (.bipush 19, 2) := by decide +kernel
theorem dX10_readsTemplate_32 : decode cX10_readsTemplate 32 = .ok (.iload_n 1, 1) := by decide +kernel
theorem dX10_readsTemplate_33 : decode cX10_readsTemplate 33 = .ok (.iadd, 1) := by decide +kernel
theorem dX10_readsTemplate_34 : decode cX10_readsTemplate 34 = .ok (.iaload, 1) := by decide +kernel
theorem dX10_readsTemplate_35 : decode cX10_readsTemplate 35 = .ok (.iastore, 1) := by decide +kernel
theorem dX10_readsTemplate_36 : decode cX10_readsTemplate 36 = .ok (.iinc 1 1, 3) := by decide +kernel
theorem dX10_readsTemplate_39 : decode cX10_readsTemplate 39 = .ok (.goto (-26), 3) := by decide +kernel
theorem dX10_readsTemplate_42 : decode cX10_readsTemplate 42 = .ok (.aload_n 0, 1) := by decide +kernel
theorem dX10_readsTemplate_43 : decode cX10_readsTemplate 43 = .ok (.invokevirtual 196, 3) := by decide +kernel
theorem dX10_readsTemplate_46 : decode cX10_readsTemplate 46 = .ok (.return_, 1) := by decide +kernel
theorem dX10_setTemplate_0 : decode cX10_setTemplate 0 = .ok (.aload_n 0, 1) := by decide +kernel
theorem dX10_setTemplate_1 : decode cX10_setTemplate 1 = .ok (.iconst 0, 1) := by decide +kernel
theorem dX10_setTemplate_2 : decode cX10_setTemplate 2 = .ok (.putfield 78, 3) := by decide +kernel
theorem dX10_setTemplate_5 : decode cX10_setTemplate 5 = .ok (.aload_n 0, 1) := by decide +kernel
theorem dX10_setTemplate_6 : decode cX10_setTemplate 6 = .ok (.aload_n 0, 1) := by decide +kernel
theorem dX10_setTemplate_7 : decode cX10_setTemplate 7 = .ok (.getfield 96, 3) := by decide +kernel
theorem dX10_setTemplate_10 : decode cX10_setTemplate 10 = .ok (.putfield 150, 3) := by decide +kernel
theorem dX10_setTemplate_13 : decode cX10_setTemplate 13 = .ok (.iconst 0, 1) := by decide +kernel
theorem dX10_setTemplate_14 : decode cX10_setTemplate 14 = .ok (.istore_n 1, 1) := by decide +kernel
theorem dX10_setTemplate_15 : decode cX10_setTemplate 15 = .ok (.iload_n 1, 1) := by decide +kernel
theorem dX10_setTemplate_16 : decode cX10_setTemplate 16 = .ok (.aload_n 0, 1) := by decide +kernel
theorem dX10_setTemplate_17 : decode cX10_setTemplate 17 = .ok (.getfield 96, 3) := by decide +kernel
theorem dX10_setTemplate_20 : decode cX10_setTemplate 20 = .ok (.if_icmp .ge 21, 3) := by decide +kernel
theorem dX10_setTemplate_23 : decode cX10_setTemplate 23 = .ok (.aload_n 0, 1) := by decide +kernel
theorem dX10_setTemplate_24 : decode cX10_setTemplate 24 = .ok (.getfield 29, 3) := by decide +kernel
theorem dX10_setTemplate_27 : decode cX10_setTemplate 27 = .ok (.iload_n 1, 1) := by decide +kernel
theorem dX10_setTemplate_28 : decode cX10_setTemplate 28 = .ok (.aload_n 0, 1) := by decide +kernel
theorem dX10_setTemplate_29 : decode cX10_setTemplate 29 = .ok (.getfield 13, 3) := by decide +kernel
theorem dX10_setTemplate_32 : decode cX10_setTemplate 32 = .ok (.iload_n 1, 1) := by decide +kernel
theorem dX10_setTemplate_33 : decode cX10_setTemplate 33 = .ok (.iaload, 1) := by decide +kernel
theorem dX10_setTemplate_34 : decode cX10_setTemplate 34 = .ok (.iastore, 1) := by decide +kernel
theorem dX10_setTemplate_35 : decode cX10_setTemplate 35 = .ok (.iinc 1 1, 3) := by decide +kernel
theorem dX10_setTemplate_38 : decode cX10_setTemplate 38 = .ok (.goto (-23), 3) := by decide +kernel
theorem dX10_setTemplate_41 : decode cX10_setTemplate 41 = .ok (.aload_n 0, 1) := by decide +kernel
theorem dX10_setTemplate_42 : decode cX10_setTemplate 42 = .ok (.iconst 0, 1) := by decide +kernel
theorem dX10_setTemplate_43 : decode cX10_setTemplate 43 = .ok (.putfield 96, 3) := by decide +kernel
theorem dX10_setTemplate_46 : decode cX10_setTemplate 46 = .ok (.aload_n 0, 1) := by decide +kernel
theorem dX10_setTemplate_47 : decode cX10_setTemplate 47 = .ok (.invokevirtual 196, 3) := by decide +kernel
theorem dX10_setTemplate_50 : decode cX10_setTemplate 50 = .ok (.aload_n 0, 1) := by decide +kernel
theorem dX10_setTemplate_51 : decode cX10_setTemplate 51 = .ok (.getfield 153, 3) := by decide +kernel
theorem dX10_setTemplate_54 : decode cX10_setTemplate 54 = .ok (.ifCond .lt 18, 3) := by decide +kernel
theorem dX10_setTemplate_57 : decode cX10_setTemplate 57 = .ok (.aload_n 0, 1) := by decide +kernel
theorem dX10_setTemplate_58 : decode cX10_setTemplate 58 = .ok (.aload_n 0, 1) := by decide +kernel
theorem dX10_setTemplate_59 : decode cX10_setTemplate 59 = .ok (.getfield 153, 3) := by decide +kernel
theorem dX10_setTemplate_62 : decode cX10_setTemplate 62 = .ok (.putfield 16, 3) := by decide +kernel
theorem dX10_setTemplate_65 : decode cX10_setTemplate 65 = .ok (.aload_n 0, 1) := by decide +kernel
theorem dX10_setTemplate_66 : decode cX10_setTemplate 66 = .ok (.iconst 1, 1) := by decide +kernel
theorem dX10_setTemplate_67 : decode cX10_setTemplate 67 = .ok (.putfield 78, 3) := by decide +kernel
theorem dX10_setTemplate_70 : decode cX10_setTemplate 70 = .ok (.iconst 0, 1) := by decide +kernel
theorem dX10_setTemplate_71 : decode cX10_setTemplate 71 = .ok (.ireturn, 1) := by decide +kernel
theorem dX10_setTemplate_72 : decode cX10_setTemplate 72 = .ok (.aload_n 0, 1) := by decide +kernel
theorem dX10_setTemplate_73 : decode cX10_setTemplate 73 = .ok (.invokevirtual 99, 3) := by decide +kernel
theorem dX10_setTemplate_76 : decode cX10_setTemplate 76 = .ok (.aload_n 0, 1) := by decide +kernel
theorem dX10_setTemplate_77 : decode cX10_setTemplate 77 = .ok (.getfield 9, 3) := by decide +kernel
theorem dX10_setTemplate_80 : decode cX10_setTemplate 80 = .ok (.bipush 18, 2) := by decide +kernel
theorem dX10_setTemplate_82 : decode cX10_setTemplate 82 = .ok (.aload_n 0, 1) := by decide +kernel
theorem dX10_setTemplate_83 : decode cX10_setTemplate 83 = .ok (.getfield 150, 3) := by decide +kernel
theorem dX10_setTemplate_86 : decode cX10_setTemplate 86 = .ok (.iastore, 1) := by decide +kernel
theorem dX10_setTemplate_87 : decode cX10_setTemplate 87 = .ok (.iconst 0, 1) := by decide +kernel
theorem dX10_setTemplate_88 : decode cX10_setTemplate 88 = .ok (.istore_n 1, 1) := by decide +kernel
theorem dX10_setTemplate_89 : decode cX10_setTemplate 89 = .ok (.iload_n 1, 1) := by decide +kernel
theorem dX10_setTemplate_90 : decode cX10_setTemplate 90 = .ok (.bipush 120, 2) := by decide +kernel
theorem dX10_setTemplate_92 : decode cX10_setTemplate 92 = .ok (.if_icmp .ge 36, 3) := by decide +kernel
theorem dX10_setTemplate_95 : decode cX10_setTemplate 95 = .ok (.aload_n 0, 1) := by decide +kernel
theorem dX10_setTemplate_96 : decode cX10_setTemplate 96 = .ok (.getfield 9, 3) := by decide +kernel
theorem dX10_setTemplate_99 : decode cX10_setTemplate 99 = .ok (.bipush 19, 2) := by decide +kernel
theorem dX10_setTemplate_101 : decode cX10_setTemplate 101 = .ok (.iload_n 1, 1) := by decide +kernel
theorem dX10_setTemplate_102 : decode cX10_setTemplate 102 = .ok (.iadd, 1) := by decide +kernel
theorem dX10_setTemplate_103 : decode cX10_setTemplate 103 = .ok (.iload_n 1, 1) := by decide +kernel
theorem dX10_setTemplate_104 : decode cX10_setTemplate 104 = .ok (.aload_n 0, 1) := by decide +kernel
theorem dX10_setTemplate_105 : decode cX10_setTemplate 105 = .ok (.getfield 150, 3) := by decide +kernel
theorem dX10_setTemplate_108 : decode cX10_setTemplate 108 = .ok (.if_icmp .ge 12, 3) := by decide +kernel
theorem dX10_setTemplate_111 : decode cX10_setTemplate 111 = .ok (.aload_n 0, 1) := by decide +kernel
theorem dX10_setTemplate_112 : decode cX10_setTemplate 112 = .ok (.getfield 29, 3) := by decide +kernel
theorem dX10_setTemplate_115 : decode cX10_setTemplate 115 = .ok (.iload_n 1, 1) := by decide +kernel
theorem dX10_setTemplate_116 : decode cX10_setTemplate 116 = .ok (.iaload, 1) := by decide +kernel
theorem dX10_setTemplate_117 : decode cX10_setTemplate 117 = .ok (.goto 4, 3) := by decide +kernel
theorem dX10_setTemplate_120 : decode cX10_setTemplate 120 = .ok (.iconst 0, 1) := by decide +kernel
theorem dX10_setTemplate_121 : decode cX10_setTemplate 121 = .ok (.iastore, 1) := by decide +kernel
theorem dX10_setTemplate_122 : decode cX10_setTemplate 122 = .ok (.iinc 1 1, 3) := by decide +kernel
theorem dX10_setTemplate_125 : decode cX10_setTemplate 125 = .ok (.goto (-36), 3) := by decide +kernel
theorem dX10_setTemplate_128 : decode cX10_setTemplate 128 = .ok (.aload_n 0, 1) := by decide +kernel
theorem dX10_setTemplate_129 : decode cX10_setTemplate 129 = .ok (.getfield 162, 3) := by decide +kernel
theorem dX10_setTemplate_132 : decode cX10_setTemplate 132 = .ok (.ireturn, 1) := by decide +kernel
theorem dX10_template_0 : decode cX10_template 0 = .ok (.aload_n 0, 1) := by decide +kernel
theorem dX10_template_1 : decode cX10_template 1 = .ok (.iload_n 1, 1) := by decide +kernel
theorem dX10_template_2 : decode cX10_template 2 = .ok (.iconst 0, 1) := by decide +kernel
theorem dX10_template_3 : decode cX10_template 3 = .ok (.iconst 4, 1) := by decide +kernel
theorem dX10_template_4 : decode cX10_template 4 = .ok (.invokestatic 88, 3) := by decide +kernel
theorem dX10_template_7 : decode cX10_template 7 = .ok (.ifCond .eq 7, 3) := by decide +kernel
theorem dX10_template_10 : decode cX10_template 10 = .ok (.iconst 0, 1) := by decide +kernel
theorem dX10_template_11 : decode cX10_template 11 = .ok (.goto 4, 3) := by decide +kernel
theorem dX10_template_14 : decode cX10_template 14 = .ok (.iconst 1, 1) := by decide +kernel
theorem dX10_template_15 : decode cX10_template 15 = .ok (.putfield 78, 3) := by decide +kernel
theorem dX10_template_18 : decode cX10_template 18 = .ok (.aload_n 0, 1) := by decide +kernel
theorem dX10_template_19 : decode cX10_template 19 = .ok (.getfield 78, 3) := by decide +kernel
theorem dX10_template_22 : decode cX10_template 22 = .ok (.ifCond .eq 5, 3) := by decide +kernel
theorem dX10_template_25 : decode cX10_template 25 = .ok (.iconst 0, 1) := by decide +kernel
theorem dX10_template_26 : decode cX10_template 26 = .ok (.ireturn, 1) := by decide +kernel
theorem dX10_template_27 : decode cX10_template 27 = .ok (.aload_n 0, 1) := by decide +kernel
theorem dX10_template_28 : decode cX10_template 28 = .ok (.invokevirtual 199, 3) := by decide +kernel
theorem dX10_template_31 : decode cX10_template 31 = .ok (.iconst 0, 1) := by decide +kernel
theorem dX10_template_32 : decode cX10_template 32 = .ok (.istore_n 2, 1) := by decide +kernel
theorem dX10_template_33 : decode cX10_template 33 = .ok (.iconst 0, 1) := by decide +kernel
theorem dX10_template_34 : decode cX10_template 34 = .ok (.istore_n 3, 1) := by decide +kernel
theorem dX10_template_35 : decode cX10_template 35 = .ok (.iconst 0, 1) := by decide +kernel
theorem dX10_template_36 : decode cX10_template 36 = .ok (.istore 4, 2) := by decide +kernel
theorem dX10_template_38 : decode cX10_template 38 = .ok (.iload 4, 2) := by decide +kernel
theorem dX10_template_40 : decode cX10_template 40 = .ok (.aload_n 0, 1) := by decide +kernel
theorem dX10_template_41 : decode cX10_template 41 = .ok (.getfield 162, 3) := by decide +kernel
theorem dX10_template_44 : decode cX10_template 44 = .ok (.if_icmp .ge 55, 3) := by decide +kernel
theorem dX10_template_47 : decode cX10_template 47 = .ok (.iload_n 2, 1) := by decide +kernel
theorem dX10_template_48 : decode cX10_template 48 = .ok (.aload_n 0, 1) := by decide +kernel
theorem dX10_template_49 : decode cX10_template 49 = .ok (.getfield 32, 3) := by decide +kernel
theorem dX10_template_52 : decode cX10_template 52 = .ok (.iload 4, 2) := by decide +kernel
theorem dX10_template_54 : decode cX10_template 54 = .ok (.iaload, 1) := by decide +kernel
theorem dX10_template_55 : decode cX10_template 55 = .ok (.iconst 3, 1) := by decide +kernel
theorem dX10_template_56 : decode cX10_template 56 = .ok (.if_icmp .ne 15, 3) := by decide +kernel
theorem dX10_template_59 : decode cX10_template 59 = .ok (.iconst 1, 1) := by decide +kernel
theorem dX10_template_60 : decode cX10_template 60 = .ok (.aload_n 0, 1) := by decide +kernel
theorem dX10_template_61 : decode cX10_template 61 = .ok (.getfield 38, 3) := by decide +kernel
theorem dX10_template_64 : decode cX10_template 64 = .ok (.iload 4, 2) := by decide +kernel
theorem dX10_template_66 : decode cX10_template 66 = .ok (.iaload, 1) := by decide +kernel
theorem dX10_template_67 : decode cX10_template 67 = .ok (.ishl, 1) := by decide +kernel
theorem dX10_template_68 : decode cX10_template 68 = .ok (.goto 4, 3) := by decide +kernel
theorem dX10_template_71 : decode cX10_template 71 = .ok (.iconst 0, 1) := by decide +kernel
theorem dX10_template_72 : decode cX10_template 72 = .ok (.ior, 1) := by decide +kernel
theorem dX10_template_73 : decode cX10_template 73 = .ok (.istore_n 2, 1) := by decide +kernel
theorem dX10_template_74 : decode cX10_template 74 = .ok (.iload_n 3, 1) := by decide +kernel
theorem dX10_template_75 : decode cX10_template 75 = .ok (.aload_n 0, 1) := by decide +kernel
theorem dX10_template_76 : decode cX10_template 76 = .ok (.getfield 32, 3) := by decide +kernel
theorem dX10_template_79 : decode cX10_template 79 = .ok (.iload 4, 2) := by decide +kernel
theorem dX10_template_81 : decode cX10_template 81 = .ok (.iaload, 1) := by decide +kernel
theorem dX10_template_82 : decode cX10_template 82 = .ok (.iconst 5, 1) := by decide +kernel
theorem dX10_template_83 : decode cX10_template 83 = .ok (.if_icmp .ne 7, 3) := by decide +kernel
theorem dX10_template_86 : decode cX10_template 86 = .ok (.iconst 1, 1) := by decide +kernel
theorem dX10_template_87 : decode cX10_template 87 = .ok (.goto 4, 3) := by decide +kernel
theorem dX10_template_90 : decode cX10_template 90 = .ok (.iconst 0, 1) := by decide +kernel
theorem dX10_template_91 : decode cX10_template 91 = .ok (.iadd, 1) := by decide +kernel
theorem dX10_template_92 : decode cX10_template 92 = .ok (.istore_n 3, 1) := by decide +kernel
theorem dX10_template_93 : decode cX10_template 93 = .ok (.iinc 4 1, 3) := by decide +kernel
theorem dX10_template_96 : decode cX10_template 96 = .ok (.goto (-58), 3) := by decide +kernel
theorem dX10_template_99 : decode cX10_template 99 = .ok (.iconst 0, 1) := by decide +kernel
theorem dX10_template_100 : decode cX10_template 100 = .ok (.istore 4, 2) := by decide +kernel
theorem dX10_template_102 : decode cX10_template 102 = .ok (.iload 4, 2) := by decide +kernel
theorem dX10_template_104 : decode cX10_template 104 = .ok (.aload_n 0, 1) := by decide +kernel
theorem dX10_template_105 : decode cX10_template 105 = .ok (.getfield 165, 3) := by decide +kernel
theorem dX10_template_108 : decode cX10_template 108 = .ok (.if_icmp .ge 35, 3) := by decide +kernel
theorem dX10_template_111 : decode cX10_template 111 = .ok (.iload_n 2, 1) := by decide +kernel
theorem dX10_template_112 : decode cX10_template 112 = .ok (.aload_n 0, 1) := by decide +kernel
theorem dX10_template_113 : decode cX10_template 113 = .ok (.getfield 47, 3) := by decide +kernel
theorem dX10_template_116 : decode cX10_template 116 = .ok (.iload 4, 2) := by decide +kernel
theorem dX10_template_118 : decode cX10_template 118 = .ok (.iaload, 1) := by decide +kernel
theorem dX10_template_119 : decode cX10_template 119 = .ok (.ifCond .ne 15, 3) := by decide +kernel
theorem dX10_template_122 : decode cX10_template 122 = .ok (.iconst 1, 1) := by decide +kernel
theorem dX10_template_123 : decode cX10_template 123 = .ok (.aload_n 0, 1) := by decide +kernel
theorem dX10_template_124 : decode cX10_template 124 = .ok (.getfield 50, 3) := by decide +kernel
theorem dX10_template_127 : decode cX10_template 127 = .ok (.iload 4, 2) := by decide +kernel
theorem dX10_template_129 : decode cX10_template 129 = .ok (.iaload, 1) := by decide +kernel
theorem dX10_template_130 : decode cX10_template 130 = .ok (.ishl, 1) := by decide +kernel
theorem dX10_template_131 : decode cX10_template 131 = .ok (.goto 4, 3) := by decide +kernel
theorem dX10_template_134 : decode cX10_template 134 = .ok (.iconst 0, 1) := by decide +kernel
theorem dX10_template_135 : decode cX10_template 135 = .ok (.ior, 1) := by decide +kernel
theorem dX10_template_136 : decode cX10_template 136 = .ok (.istore_n 2, 1) := by decide +kernel
theorem dX10_template_137 : decode cX10_template 137 = .ok (.iinc 4 1, 3) := by decide +kernel
theorem dX10_template_140 : decode cX10_template 140 = .ok (.goto (-38), 3) := by decide +kernel
theorem dX10_template_143 : decode cX10_template 143 = .ok (.iload_n 1, 1) := by decide +kernel
theorem dX10_template_144 : decode cX10_template 144 = .ok (.ifCond .ne 10, 3) := by decide +kernel
theorem dX10_template_147 : decode cX10_template 147 = .ok (.aload_n 0, 1) := by decide +kernel
theorem dX10_template_148 : decode cX10_template 148 = .ok (.getfield 162, 3) := by decide +kernel
theorem dX10_template_151 : decode cX10_template 151 = .ok (.goto 40, 3) := by decide +kernel
theorem dX10_template_154 : decode cX10_template 154 = .ok (.iload_n 1, 1) := by decide +kernel
theorem dX10_template_155 : decode cX10_template 155 = .ok (.iconst 1, 1) := by decide +kernel
theorem dX10_template_156 : decode cX10_template 156 = .ok (.if_icmp .ne 13, 3) := by decide +kernel
theorem dX10_template_159 : decode cX10_template 159 = .ok (.aload_n 0, 1) := by decide +kernel
theorem dX10_template_160 : decode cX10_template 160 = .ok (.getfield 9, 3) := by decide +kernel
theorem dX10_template_163 : decode cX10_template 163 = .ok (.bipush 18, 2) := by decide +kernel
theorem dX10_template_165 : decode cX10_template 165 = .ok (.iaload, 1) := by decide +kernel
theorem dX10_template_166 : decode cX10_template 166 = .ok (.goto 25, 3) := by decide +kernel
theorem dX10_template_169 : decode cX10_template 169 = .ok (.iload_n 1, 1) := by decide +kernel
theorem dX10_template_170 : decode cX10_template 170 = .ok (.iconst 2, 1) := by decide +kernel
theorem dX10_template_171 : decode cX10_template 171 = .ok (.if_icmp .ne 10, 3) := by decide +kernel
theorem dX10_template_174 : decode cX10_template 174 = .ok (.aload_n 0, 1) := by decide +kernel
theorem dX10_template_175 : decode cX10_template 175 = .ok (.getfield 181, 3) := by decide +kernel
theorem dX10_template_178 : decode cX10_template 178 = .ok (.goto 13, 3) := by decide +kernel
theorem dX10_template_181 : decode cX10_template 181 = .ok (.iload_n 1, 1) := by decide +kernel
theorem dX10_template_182 : decode cX10_template 182 = .ok (.iconst 3, 1) := by decide +kernel
theorem dX10_template_183 : decode cX10_template 183 = .ok (.if_icmp .ne 7, 3) := by decide +kernel
theorem dX10_template_186 : decode cX10_template 186 = .ok (.iload_n 2, 1) := by decide +kernel
theorem dX10_template_187 : decode cX10_template 187 = .ok (.goto 4, 3) := by decide +kernel
theorem dX10_template_190 : decode cX10_template 190 = .ok (.iload_n 3, 1) := by decide +kernel
theorem dX10_template_191 : decode cX10_template 191 = .ok (.ireturn, 1) := by decide +kernel
theorem dX10_deepOf_0 : decode cX10_deepOf 0 = .ok (.iconst 0, 1) := by decide +kernel
theorem dX10_deepOf_1 : decode cX10_deepOf 1 = .ok (.istore_n 2, 1) := by decide +kernel
theorem dX10_deepOf_2 : decode cX10_deepOf 2 = .ok (.aload_n 0, 1) := by decide +kernel
theorem dX10_deepOf_3 : decode cX10_deepOf 3 = .ok (.iconst (-1), 1) := by decide +kernel
theorem dX10_deepOf_4 : decode cX10_deepOf 4 = .ok (.putfield 202, 3) := by decide +kernel
theorem dX10_deepOf_7 : decode cX10_deepOf 7 = .ok (.iconst 0, 1) := by decide +kernel
theorem dX10_deepOf_8 : decode cX10_deepOf 8 = .ok (.istore_n 3, 1) := by decide +kernel
theorem dX10_deepOf_9 : decode cX10_deepOf 9 = .ok (.iload_n 3, 1) := by decide +kernel
theorem dX10_deepOf_10 : decode cX10_deepOf 10 = .ok (.iload_n 1, 1) := by decide +kernel
theorem dX10_deepOf_11 : decode cX10_deepOf 11 = .ok (.if_icmp .ge 40, 3) := by decide +kernel
theorem dX10_deepOf_14 : decode cX10_deepOf 14 = .ok (.aload_n 0, 1) := by decide +kernel
theorem dX10_deepOf_15 : decode cX10_deepOf 15 = .ok (.getfield 32, 3) := by decide +kernel
theorem dX10_deepOf_18 : decode cX10_deepOf 18 = .ok (.iload_n 3, 1) := by decide +kernel
theorem dX10_deepOf_19 : decode cX10_deepOf 19 = .ok (.iaload, 1) := by decide +kernel
theorem dX10_deepOf_20 : decode cX10_deepOf 20 = .ok (.iconst 5, 1) := by decide +kernel
theorem dX10_deepOf_21 : decode cX10_deepOf 21 = .ok (.if_icmp .ne 24, 3) := by decide +kernel
theorem dX10_deepOf_24 : decode cX10_deepOf 24 = .ok (.aload_n 0, 1) := by decide +kernel
theorem dX10_deepOf_25 : decode cX10_deepOf 25 = .ok (.getfield 44, 3) := by decide +kernel
theorem dX10_deepOf_28 : decode cX10_deepOf 28 = .ok (.iload_n 3, 1) := by decide +kernel
theorem dX10_deepOf_29 : decode cX10_deepOf 29 = .ok (.iaload, 1) := by decide +kernel
theorem dX10_deepOf_30 : decode cX10_deepOf 30 = .ok (.iload_n 1, 1) := by decide +kernel
theorem dX10_deepOf_31 : decode cX10_deepOf 31 = .ok (.if_icmp .gt 6, 3) := by decide +kernel
theorem dX10_deepOf_34 : decode cX10_deepOf 34 = .ok (.goto 11, 3) := by decide +kernel
theorem dX10_deepOf_37 : decode cX10_deepOf 37 = .ok (.iinc 2 1, 3) := by decide +kernel
theorem dX10_deepOf_40 : decode cX10_deepOf 40 = .ok (.aload_n 0, 1) := by decide +kernel
theorem dX10_deepOf_41 : decode cX10_deepOf 41 = .ok (.iload_n 3, 1) := by decide +kernel
theorem dX10_deepOf_42 : decode cX10_deepOf 42 = .ok (.putfield 202, 3) := by decide +kernel
theorem dX10_deepOf_45 : decode cX10_deepOf 45 = .ok (.iinc 3 1, 3) := by decide +kernel
theorem dX10_deepOf_48 : decode cX10_deepOf 48 = .ok (.goto (-39), 3) := by decide +kernel
theorem dX10_deepOf_51 : decode cX10_deepOf 51 = .ok (.iload_n 2, 1) := by decide +kernel
theorem dX10_deepOf_52 : decode cX10_deepOf 52 = .ok (.ireturn, 1) := by decide +kernel
theorem dX10_item__0 : decode cX10_item_ 0 = .ok (.aload_n 0, 1) := by decide +kernel
theorem dX10_item__1 : decode cX10_item_ 1 = .ok (.invokevirtual 199, 3) := by decide +kernel
theorem dX10_item__4 : decode cX10_item_ 4 = .ok (.aload_n 0, 1) := by decide +kernel
theorem dX10_item__5 : decode cX10_item_ 5 = .ok (.iload_n 1, 1) := by decide +kernel
theorem dX10_item__6 : decode cX10_item_ 6 = .ok (.iconst 0, 1) := by decide +kernel
theorem dX10_item__7 : decode cX10_item_ 7 = .ok (.aload_n 0, 1) := by decide +kernel
theorem dX10_item__8 : decode cX10_item_ 8 = .ok (.getfield 162, 3) := by decide +kernel
theorem dX10_item__11 : decode cX10_item_ 11 = .ok (.iconst 1, 1) := by decide +kernel
theorem dX10_item__12 : decode cX10_item_ 12 = .ok (.isub, 1) := by decide +kernel
theorem dX10_item__13 : decode cX10_item_ 13 = .ok (.invokestatic 88, 3) := by decide +kernel
theorem dX10_item__16 : decode cX10_item_ 16 = .ok (.ifCond .ne 7, 3) := by decide +kernel
theorem dX10_item__19 : decode cX10_item_ 19 = .ok (.iconst 1, 1) := by decide +kernel
theorem dX10_item__20 : decode cX10_item_ 20 = .ok (.goto 17, 3) := by decide +kernel
theorem dX10_item__23 : decode cX10_item_ 23 = .ok (.iload_n 2, 1) := by decide +kernel
theorem dX10_item__24 : decode cX10_item_ 24 = .ok (.iconst 0, 1) := by decide +kernel
theorem dX10_item__25 : decode cX10_item_ 25 = .ok (.iconst 3, 1) := by decide +kernel
theorem dX10_item__26 : decode cX10_item_ 26 = .ok (.invokestatic 88, 3) := by decide +kernel
theorem dX10_item__29 : decode cX10_item_ 29 = .ok (.ifCond .eq 7, 3) := by decide +kernel
theorem dX10_item__32 : decode cX10_item_ 32 = .ok (.iconst 0, 1) := by decide +kernel
theorem dX10_item__33 : decode cX10_item_ 33 = .ok (.goto 4, 3) := by decide +kernel
theorem dX10_item__36 : decode cX10_item_ 36 = .ok (.iconst 2, 1) := by decide +kernel
theorem dX10_item__37 : decode cX10_item_ 37 = .ok (.putfield 78, 3) := by decide +kernel
theorem dX10_item__40 : decode cX10_item_ 40 = .ok (.aload_n 0, 1) := by decide +kernel
theorem dX10_item__41 : decode cX10_item_ 41 = .ok (.getfield 78, 3) := by decide +kernel
theorem dX10_item__44 : decode cX10_item_ 44 = .ok (.ifCond .eq 5, 3) := by decide +kernel
theorem dX10_item__47 : decode cX10_item_ 47 = .ok (.iconst 0, 1) := by decide +kernel
theorem dX10_item__48 : decode cX10_item_ 48 = .ok (.ireturn, 1) := by decide +kernel
theorem dX10_item__49 : decode cX10_item_ 49 = .ok (.aload_n 0, 1) := by decide +kernel
theorem dX10_item__50 : decode cX10_item_ 50 = .ok (.iload_n 1, 1) := by decide +kernel
theorem dX10_item__51 : decode cX10_item_ 51 = .ok (.invokevirtual 205, 3) := by decide +kernel
theorem dX10_item__54 : decode cX10_item_ 54 = .ok (.istore_n 3, 1) := by decide +kernel
theorem dX10_item__55 : decode cX10_item_ 55 = .ok (.iload_n 2, 1) := by decide +kernel
theorem dX10_item__56 : decode cX10_item_ 56 = .ok (.ifCond .ne 12, 3) := by decide +kernel
theorem dX10_item__59 : decode cX10_item_ 59 = .ok (.aload_n 0, 1) := by decide +kernel
theorem dX10_item__60 : decode cX10_item_ 60 = .ok (.getfield 32, 3) := by decide +kernel
theorem dX10_item__63 : decode cX10_item_ 63 = .ok (.iload_n 1, 1) := by decide +kernel
theorem dX10_item__64 : decode cX10_item_ 64 = .ok (.iaload, 1) := by decide +kernel
theorem dX10_item__65 : decode cX10_item_ 65 = .ok (.goto 30, 3) := by decide +kernel
theorem dX10_item__68 : decode cX10_item_ 68 = .ok (.iload_n 2, 1) := by decide +kernel
theorem dX10_item__69 : decode cX10_item_ 69 = .ok (.iconst 1, 1) := by decide +kernel
theorem dX10_item__70 : decode cX10_item_ 70 = .ok (.if_icmp .ne 12, 3) := by decide +kernel
theorem dX10_item__73 : decode cX10_item_ 73 = .ok (.aload_n 0, 1) := by decide +kernel
theorem dX10_item__74 : decode cX10_item_ 74 = .ok (.getfield 35, 3) := by decide +kernel
theorem dX10_item__77 : decode cX10_item_ 77 = .ok (.iload_n 1, 1) := by decide +kernel
theorem dX10_item__78 : decode cX10_item_ 78 = .ok (.iaload, 1) := by decide +kernel
theorem dX10_item__79 : decode cX10_item_ 79 = .ok (.goto 16, 3) := by decide +kernel
theorem dX10_item__82 : decode cX10_item_ 82 = .ok (.iload_n 2, 1) := by decide +kernel
theorem dX10_item__83 : decode cX10_item_ 83 = .ok (.iconst 2, 1) := by decide +kernel
theorem dX10_item__84 : decode cX10_item_ 84 = .ok (.if_icmp .ne 7, 3) := by decide +kernel
theorem dX10_item__87 : decode cX10_item_ 87 = .ok (.iload_n 3, 1) := by decide +kernel
theorem dX10_item__88 : decode cX10_item_ 88 = .ok (.goto 7, 3) := by decide +kernel
theorem dX10_item__91 : decode cX10_item_ 91 = .ok (.aload_n 0, 1) := by decide +kernel
theorem dX10_item__92 : decode cX10_item_ 92 = .ok (.getfield 202, 3) := by decide +kernel
theorem dX10_item__95 : decode cX10_item_ 95 = .ok (.ireturn, 1) := by decide +kernel
theorem dX10_counts_0 : decode cX10_counts 0 = .ok (.aload_n 0, 1) := by decide +kernel
theorem dX10_counts_1 : decode cX10_counts 1 = .ok (.invokevirtual 199, 3) := by decide +kernel
theorem dX10_counts_4 : decode cX10_counts 4 = .ok (.aload_n 0, 1) := by decide +kernel
theorem dX10_counts_5 : decode cX10_counts 5 = .ok (.aload_n 0, 1) := by decide +kernel
theorem dX10_counts_6 : decode cX10_counts 6 = .ok (.iload_n 1, 1) := by decide +kernel
theorem dX10_counts_7 : decode cX10_counts 7 = .ok (.invokevirtual 102, 3) := by decide +kernel
theorem dX10_counts_10 : decode cX10_counts 10 = .ok (.ifCond .ne 7, 3) := by decide +kernel
theorem dX10_counts_13 : decode cX10_counts 13 = .ok (.iconst 1, 1) := by decide +kernel
theorem dX10_counts_14 : decode cX10_counts 14 = .ok (.goto 22, 3) := by decide +kernel
theorem dX10_counts_17 : decode cX10_counts 17 = .ok (.iload_n 2, 1) := by decide +kernel
theorem dX10_counts_18 : decode cX10_counts 18 = .ok (.iconst 0, 1) := by decide +kernel
theorem dX10_counts_19 : decode cX10_counts 19 = .ok (.aload_n 0, 1) := by decide +kernel
theorem dX10_counts_20 : decode cX10_counts 20 = .ok (.getfield 162, 3) := by decide +kernel
theorem dX10_counts_23 : decode cX10_counts 23 = .ok (.iconst 1, 1) := by decide +kernel
theorem dX10_counts_24 : decode cX10_counts 24 = .ok (.isub, 1) := by decide +kernel
theorem dX10_counts_25 : decode cX10_counts 25 = .ok (.invokestatic 88, 3) := by decide +kernel
theorem dX10_counts_28 : decode cX10_counts 28 = .ok (.ifCond .eq 7, 3) := by decide +kernel
theorem dX10_counts_31 : decode cX10_counts 31 = .ok (.iconst 0, 1) := by decide +kernel
theorem dX10_counts_32 : decode cX10_counts 32 = .ok (.goto 4, 3) := by decide +kernel
theorem dX10_counts_35 : decode cX10_counts 35 = .ok (.iconst 2, 1) := by decide +kernel
theorem dX10_counts_36 : decode cX10_counts 36 = .ok (.putfield 78, 3) := by decide +kernel
theorem dX10_counts_39 : decode cX10_counts 39 = .ok (.aload_n 0, 1) := by decide +kernel
theorem dX10_counts_40 : decode cX10_counts 40 = .ok (.getfield 78, 3) := by decide +kernel
theorem dX10_counts_43 : decode cX10_counts 43 = .ok (.ifCond .ne 7, 3) := by decide +kernel
theorem dX10_counts_46 : decode cX10_counts 46 = .ok (.iconst 1, 1) := by decide +kernel
theorem dX10_counts_47 : decode cX10_counts 47 = .ok (.goto 4, 3) := by decide +kernel
theorem dX10_counts_50 : decode cX10_counts 50 = .ok (.iconst 0, 1) := by decide +kernel
theorem dX10_counts_51 : decode cX10_counts 51 = .ok (.istore_n 3, 1) := by decide +kernel
theorem dX10_counts_52 : decode cX10_counts 52 = .ok (.iconst 0, 1) := by decide +kernel
theorem dX10_counts_53 : decode cX10_counts 53 = .ok (.istore 4, 2) := by decide +kernel
theorem dX10_counts_55 : decode cX10_counts 55 = .ok (.iload 4, 2) := by decide +kernel
theorem dX10_counts_57 : decode cX10_counts 57 = .ok (.iload_n 2, 1) := by decide +kernel
theorem dX10_counts_58 : decode cX10_counts 58 = .ok (.if_icmp .gt 91, 3) := by decide +kernel
theorem dX10_counts_61 : decode cX10_counts 61 = .ok (.iload_n 3, 1) := by decide +kernel
theorem dX10_counts_62 : decode cX10_counts 62 = .ok (.ifCond .eq 87, 3) := by decide +kernel
theorem dX10_counts_65 : decode cX10_counts 65 = .ok (.aload_n 0, 1) := by decide +kernel
theorem dX10_counts_66 : decode cX10_counts 66 = .ok (.getfield 32, 3) := by decide +kernel
theorem dX10_counts_69 : decode cX10_counts 69 = .ok (.iload 4, 2) := by decide +kernel
theorem dX10_counts_71 : decode cX10_counts 71 = .ok (.iaload, 1) := by decide +kernel
theorem dX10_counts_72 : decode cX10_counts 72 = .ok (.iconst 5, 1) := by decide +kernel
theorem dX10_counts_73 : decode cX10_counts 73 = .ok (.if_icmp .ne 70, 3) := by decide +kernel
theorem dX10_counts_76 : decode cX10_counts 76 = .ok (.iload 4, 2) := by decide +kernel
theorem dX10_counts_78 : decode cX10_counts 78 = .ok (.iload_n 2, 1) := by decide +kernel
theorem dX10_counts_79 : decode cX10_counts 79 = .ok (.if_icmp .ge 17, 3) := by decide +kernel
theorem dX10_counts_82 : decode cX10_counts 82 = .ok (.aload_n 0, 1) := by decide +kernel
theorem dX10_counts_83 : decode cX10_counts 83 = .ok (.getfield 44, 3) := by decide +kernel
theorem dX10_counts_86 : decode cX10_counts 86 = .ok (.iload 4, 2) := by decide +kernel
theorem dX10_counts_88 : decode cX10_counts 88 = .ok (.iaload, 1) := by decide +kernel
theorem dX10_counts_89 : decode cX10_counts 89 = .ok (.iload_n 2, 1) := by decide +kernel
theorem dX10_counts_90 : decode cX10_counts 90 = .ok (.if_icmp .gt 6, 3) := by decide +kernel
theorem dX10_counts_93 : decode cX10_counts 93 = .ok (.goto 50, 3) := by decide +kernel
theorem dX10_counts_96 : decode cX10_counts 96 = .ok (.aload_n 0, 1) := by decide +kernel
theorem dX10_counts_97 : decode cX10_counts 97 = .ok (.getfield 38, 3) := by decide +kernel
theorem dX10_counts_100 : decode cX10_counts 100 = .ok (.iload 4, 2) := by decide +kernel
theorem dX10_counts_102 : decode cX10_counts 102 = .ok (.iaload, 1) := by decide +kernel
theorem dX10_counts_103 : decode cX10_counts 103 = .ok (.istore 5, 2) := by decide +kernel
theorem dX10_counts_105 : decode cX10_counts 105 = .ok (.iload 5, 2) := by decide +kernel
theorem dX10_counts_107 : decode cX10_counts 107 = .ok (.aload_n 0, 1) := by decide +kernel
theorem dX10_counts_108 : decode cX10_counts 108 = .ok (.getfield 41, 3) := by decide +kernel
theorem dX10_counts_111 : decode cX10_counts 111 = .ok (.iload 4, 2) := by decide +kernel
theorem dX10_counts_113 : decode cX10_counts 113 = .ok (.iaload, 1) := by decide +kernel
theorem dX10_counts_114 : decode cX10_counts 114 = .ok (.if_icmp .ge 29, 3) := by decide +kernel
theorem dX10_counts_117 : decode cX10_counts 117 = .ok (.iload_n 3, 1) := by decide +kernel
theorem dX10_counts_118 : decode cX10_counts 118 = .ok (.ifCond .eq 17, 3) := by decide +kernel
theorem dX10_counts_121 : decode cX10_counts 121 = .ok (.aload_n 0, 1) := by decide +kernel
theorem dX10_counts_122 : decode cX10_counts 122 = .ok (.iload_n 1, 1) := by decide +kernel
theorem dX10_counts_123 : decode cX10_counts 123 = .ok (.iload 5, 2) := by decide +kernel
theorem dX10_counts_125 : decode cX10_counts 125 = .ok (.invokevirtual 208, 3) := by decide +kernel
theorem dX10_counts_128 : decode cX10_counts 128 = .ok (.ifCond .eq 7, 3) := by decide +kernel
theorem dX10_counts_131 : decode cX10_counts 131 = .ok (.iconst 1, 1) := by decide +kernel
theorem dX10_counts_132 : decode cX10_counts 132 = .ok (.goto 4, 3) := by decide +kernel
theorem dX10_counts_135 : decode cX10_counts 135 = .ok (.iconst 0, 1) := by decide +kernel
theorem dX10_counts_136 : decode cX10_counts 136 = .ok (.istore_n 3, 1) := by decide +kernel
theorem dX10_counts_137 : decode cX10_counts 137 = .ok (.iinc 5 1, 3) := by decide +kernel
theorem dX10_counts_140 : decode cX10_counts 140 = .ok (.goto (-35), 3) := by decide +kernel
theorem dX10_counts_143 : decode cX10_counts 143 = .ok (.iinc 4 1, 3) := by decide +kernel
theorem dX10_counts_146 : decode cX10_counts 146 = .ok (.goto (-91), 3) := by decide +kernel
theorem dX10_counts_149 : decode cX10_counts 149 = .ok (.iload_n 3, 1) := by decide +kernel
theorem dX10_counts_150 : decode cX10_counts 150 = .ok (.ireturn, 1) := by decide +kernel
theorem dX10_setHome_0 : decode cX10_setHome 0 = .ok (.aload_n 0, 1) := by decide +kernel
theorem dX10_setHome_1 : decode cX10_setHome 1 = .ok (.invokevirtual 127, 3) := by decide +kernel
theorem dX10_setHome_4 : decode cX10_setHome 4 = .ok (.istore_n 1, 1) := by decide +kernel
theorem dX10_setHome_5 : decode cX10_setHome 5 = .ok (.aload_n 0, 1) := by decide +kernel
theorem dX10_setHome_6 : decode cX10_setHome 6 = .ok (.getfield 96, 3) := by decide +kernel
theorem dX10_setHome_9 : decode cX10_setHome 9 = .ok (.istore_n 2, 1) := by decide +kernel
theorem dX10_setHome_10 : decode cX10_setHome 10 = .ok (.aload_n 0, 1) := by decide +kernel
theorem dX10_setHome_11 : decode cX10_setHome 11 = .ok (.iconst 0, 1) := by decide +kernel
theorem dX10_setHome_12 : decode cX10_setHome 12 = .ok (.putfield 96, 3) := by decide +kernel
theorem dX10_setHome_15 : decode cX10_setHome 15 = .ok (.aload_n 0, 1) := by decide +kernel
theorem dX10_setHome_16 : decode cX10_setHome 16 = .ok (.iload_n 1, 1) := by decide +kernel
theorem dX10_setHome_17 : decode cX10_setHome 17 = .ok (.ifCond .lt 7, 3) := by decide +kernel
theorem dX10_setHome_20 : decode cX10_setHome 20 = .ok (.iconst 1, 1) := by decide +kernel
theorem dX10_setHome_21 : decode cX10_setHome 21 = .ok (.goto 4, 3) := by decide +kernel
theorem dX10_setHome_24 : decode cX10_setHome 24 = .ok (.iconst 0, 1) := by decide +kernel
theorem dX10_setHome_25 : decode cX10_setHome 25 = .ok (.putfield 78, 3) := by decide +kernel
theorem dX10_setHome_28 : decode cX10_setHome 28 = .ok (.aload_n 0, 1) := by decide +kernel
theorem dX10_setHome_29 : decode cX10_setHome 29 = .ok (.getfield 78, 3) := by decide +kernel
theorem dX10_setHome_32 : decode cX10_setHome 32 = .ok (.ifCond .eq 10, 3) := by decide +kernel
theorem dX10_setHome_35 : decode cX10_setHome 35 = .ok (.aload_n 0, 1) := by decide +kernel
theorem dX10_setHome_36 : decode cX10_setHome 36 = .ok (.iload_n 1, 1) := by decide +kernel
theorem dX10_setHome_37 : decode cX10_setHome 37 = .ok (.putfield 16, 3) := by decide +kernel
theorem dX10_setHome_40 : decode cX10_setHome 40 = .ok (.iconst 0, 1) := by decide +kernel
theorem dX10_setHome_41 : decode cX10_setHome 41 = .ok (.ireturn, 1) := by decide +kernel
theorem dX10_setHome_42 : decode cX10_setHome 42 = .ok (.aload_n 0, 1) := by decide +kernel
theorem dX10_setHome_43 : decode cX10_setHome 43 = .ok (.invokevirtual 99, 3) := by decide +kernel
theorem dX10_setHome_46 : decode cX10_setHome 46 = .ok (.aload_n 0, 1) := by decide +kernel
theorem dX10_setHome_47 : decode cX10_setHome 47 = .ok (.getfield 9, 3) := by decide +kernel
theorem dX10_setHome_50 : decode cX10_setHome 50 = .ok (.iconst 5, 1) := by decide +kernel
theorem dX10_setHome_51 : decode cX10_setHome 51 = .ok (.iaload, 1) := by decide +kernel
theorem dX10_setHome_52 : decode cX10_setHome 52 = .ok (.istore_n 3, 1) := by decide +kernel
theorem dX10_setHome_53 : decode cX10_setHome 53 = .ok (.aload_n 0, 1) := by decide +kernel
theorem dX10_setHome_54 : decode cX10_setHome 54 = .ok (.getfield 9, 3) := by decide +kernel
theorem dX10_setHome_57 : decode cX10_setHome 57 = .ok (.iconst 5, 1) := by decide +kernel
theorem dX10_setHome_58 : decode cX10_setHome 58 = .ok (.iload_n 2, 1) := by decide +kernel
theorem dX10_setHome_59 : decode cX10_setHome 59 = .ok (.iastore, 1) := by decide +kernel
theorem dX10_setHome_60 : decode cX10_setHome 60 = .ok (.iconst 0, 1) := by decide +kernel
theorem dX10_setHome_61 : decode cX10_setHome 61 = .ok (.istore 4, 2) := by decide +kernel
theorem dX10_setHome_63 : decode cX10_setHome 63 = .ok (.iload 4, 2) := by decide +kernel
theorem dX10_setHome_65 : decode cX10_setHome 65 = .ok (.bipush 12, 2) := by decide +kernel
theorem dX10_setHome_67 : decode cX10_setHome 67 = .ok (.if_icmp .ge 36, 3) := by decide +kernel
theorem dX10_setHome_70 : decode cX10_setHome 70 = .ok (.aload_n 0, 1) := by decide +kernel
theorem dX10_setHome_71 : decode cX10_setHome 71 = .ok (.getfield 9, 3) := by decide +kernel
theorem dX10_setHome_74 : decode cX10_setHome 74 = .ok (.bipush 6, 2) := by decide +kernel
theorem dX10_setHome_76 : decode cX10_setHome 76 = .ok (.iload 4, 2) := by decide +kernel
theorem dX10_setHome_78 : decode cX10_setHome 78 = .ok (.iadd, 1) := by decide +kernel
theorem dX10_setHome_79 : decode cX10_setHome 79 = .ok (.iload 4, 2) := by decide +kernel
theorem dX10_setHome_81 : decode cX10_setHome 81 = .ok (.iload_n 2, 1) := by decide +kernel
theorem dX10_setHome_82 : decode cX10_setHome 82 = .ok (.if_icmp .ge 13, 3) := by decide +kernel
theorem dX10_setHome_85 : decode cX10_setHome 85 = .ok (.aload_n 0, 1) := by decide +kernel
theorem dX10_setHome_86 : decode cX10_setHome 86 = .ok (.getfield 13, 3) := by decide +kernel
theorem dX10_setHome_89 : decode cX10_setHome 89 = .ok (.iload 4, 2) := by decide +kernel
theorem dX10_setHome_91 : decode cX10_setHome 91 = .ok (.iaload, 1) := by decide +kernel
theorem dX10_setHome_92 : decode cX10_setHome 92 = .ok (.goto 4, 3) := by decide +kernel
theorem dX10_setHome_95 : decode cX10_setHome 95 = .ok (.iconst 0, 1) := by decide +kernel
theorem dX10_setHome_96 : decode cX10_setHome 96 = .ok (.iastore, 1) := by decide +kernel
theorem dX10_setHome_97 : decode cX10_setHome 97 = .ok (.iinc 4 1, 3) := by decide +kernel
theorem dX10_setHome_100 : decode cX10_setHome 100 = .ok (.goto (-37), 3) := by decide +kernel
theorem dX10_setHome_103 : decode cX10_setHome 103 = .ok (.iload_n 3, 1) := by decide +kernel
theorem dX10_setHome_104 : decode cX10_setHome 104 = .ok (.ireturn, 1) := by decide +kernel
theorem dX10_sets_0 : decode cX10_sets 0 = .ok (.aload_n 0, 1) := by decide +kernel
theorem dX10_sets_1 : decode cX10_sets 1 = .ok (.iload_n 2, 1) := by decide +kernel
theorem dX10_sets_2 : decode cX10_sets 2 = .ok (.iload_n 3, 1) := by decide +kernel
theorem dX10_sets_3 : decode cX10_sets 3 = .ok (.iload 4, 2) := by decide +kernel
theorem dX10_sets_5 : decode cX10_sets 5 = .ok (.invokestatic 88, 3) := by decide +kernel
theorem dX10_sets_8 : decode cX10_sets 8 = .ok (.ifCond .eq 7, 3) := by decide +kernel
theorem dX10_sets_11 : decode cX10_sets 11 = .ok (.iconst 0, 1) := by decide +kernel
theorem dX10_sets_12 : decode cX10_sets 12 = .ok (.goto 4, 3) := by decide +kernel
theorem dX10_sets_15 : decode cX10_sets 15 = .ok (.iconst 1, 1) := by decide +kernel
theorem dX10_sets_16 : decode cX10_sets 16 = .ok (.putfield 78, 3) := by decide +kernel
theorem dX10_sets_19 : decode cX10_sets 19 = .ok (.aload_n 0, 1) := by decide +kernel
theorem dX10_sets_20 : decode cX10_sets 20 = .ok (.getfield 78, 3) := by decide +kernel
theorem dX10_sets_23 : decode cX10_sets 23 = .ok (.ifCond .eq 5, 3) := by decide +kernel
theorem dX10_sets_26 : decode cX10_sets 26 = .ok (.iconst 0, 1) := by decide +kernel
theorem dX10_sets_27 : decode cX10_sets 27 = .ok (.ireturn, 1) := by decide +kernel
theorem dX10_sets_28 : decode cX10_sets 28 = .ok (.aload_n 0, 1) := by decide +kernel
theorem dX10_sets_29 : decode cX10_sets 29 = .ok (.invokevirtual 99, 3) := by decide +kernel
theorem dX10_sets_32 : decode cX10_sets 32 = .ok (.aload_n 0, 1) := by decide +kernel
theorem dX10_sets_33 : decode cX10_sets 33 = .ok (.getfield 9, 3) := by decide +kernel
theorem dX10_sets_36 : decode cX10_sets 36 = .ok (.iload_n 1, 1) := by decide +kernel
theorem dX10_sets_37 : decode cX10_sets 37 = .ok (.iaload, 1) := by decide +kernel
theorem dX10_sets_38 : decode cX10_sets 38 = .ok (.istore 5, 2) := by decide +kernel
theorem dX10_sets_40 : decode cX10_sets 40 = .ok (.aload_n 0, 1) := by decide +kernel
theorem dX10_sets_41 : decode cX10_sets 41 = .ok (.getfield 9, 3) := by decide +kernel
theorem dX10_sets_44 : decode cX10_sets 44 = .ok (.iload_n 1, 1) := by decide +kernel
theorem dX10_sets_45 : decode cX10_sets 45 = .ok (.iload_n 2, 1) := by decide +kernel
theorem dX10_sets_46 : decode cX10_sets 46 = .ok (.iastore, 1) := by decide +kernel
theorem dX10_sets_47 : decode cX10_sets 47 = .ok (.iload 5, 2) := by decide +kernel
theorem dX10_sets_49 : decode cX10_sets 49 = .ok (.ireturn, 1) := by decide +kernel
theorem dX10_setKeys_0 : decode cX10_setKeys 0 = .ok (.aload_n 0, 1) := by decide +kernel
theorem dX10_setKeys_1 : decode cX10_setKeys 1 = .ok (.iconst 1, 1) := by decide +kernel
theorem dX10_setKeys_2 : decode cX10_setKeys 2 = .ok (.iload_n 1, 1) := by decide +kernel
theorem dX10_setKeys_3 : decode cX10_setKeys 3 = .ok (.iconst 0, 1) := by decide +kernel
theorem dX10_setKeys_4 : decode cX10_setKeys 4 = .ok (.bipush 31, 2) := by decide +kernel
theorem dX10_setKeys_6 : decode cX10_setKeys 6 = .ok (.invokevirtual 211, 3) := by decide +kernel
theorem dX10_setKeys_9 : decode cX10_setKeys 9 = .ok (.ireturn, 1) := by decide +kernel
theorem dX10_setPolicy_0 : decode cX10_setPolicy 0 = .ok (.aload_n 0, 1) := by decide +kernel
theorem dX10_setPolicy_1 : decode cX10_setPolicy 1 = .ok (.iconst 2, 1) := by decide +kernel
theorem dX10_setPolicy_2 : decode cX10_setPolicy 2 = .ok (.iload_n 1, 1) := by decide +kernel
theorem dX10_setPolicy_3 : decode cX10_setPolicy 3 = .ok (.iconst 0, 1) := by decide +kernel
theorem dX10_setPolicy_4 : decode cX10_setPolicy 4 = .ok (.iconst 2, 1) := by decide +kernel
theorem dX10_setPolicy_5 : decode cX10_setPolicy 5 = .ok (.invokevirtual 211, 3) := by decide +kernel
theorem dX10_setPolicy_8 : decode cX10_setPolicy 8 = .ok (.ireturn, 1) := by decide +kernel
theorem dX10_setLimit_0 : decode cX10_setLimit 0 = .ok (.aload_n 0, 1) := by decide +kernel
theorem dX10_setLimit_1 : decode cX10_setLimit 1 = .ok (.iconst 4, 1) := by decide +kernel
theorem dX10_setLimit_2 : decode cX10_setLimit 2 = .ok (.iload_n 1, 1) := by decide +kernel
theorem dX10_setLimit_3 : decode cX10_setLimit 3 = .ok (.iconst 1, 1) := by decide +kernel
theorem dX10_setLimit_4 : decode cX10_setLimit 4 = .ok (.sipush 200, 3) := by decide +kernel
theorem dX10_setLimit_7 : decode cX10_setLimit 7 = .ok (.invokevirtual 211, 3) := by decide +kernel
theorem dX10_setLimit_10 : decode cX10_setLimit 10 = .ok (.ireturn, 1) := by decide +kernel
theorem dX10_exclude_0 : decode cX10_exclude 0 = .ok (.aload_n 0, 1) := by decide +kernel
theorem dX10_exclude_1 : decode cX10_exclude 1 = .ok (.iload_n 1, 1) := by decide +kernel
theorem dX10_exclude_2 : decode cX10_exclude 2 = .ok (.iconst 0, 1) := by decide +kernel
theorem dX10_exclude_3 : decode cX10_exclude 3 = .ok (.bipush 9, 2) := by decide +kernel
theorem dX10_exclude_5 : decode cX10_exclude 5 = .ok (.invokestatic 88, 3) := by decide +kernel
theorem dX10_exclude_8 : decode cX10_exclude 8 = .ok (.ifCond .eq 7, 3) := by decide +kernel
theorem dX10_exclude_11 : decode cX10_exclude 11 = .ok (.iconst 0, 1) := by decide +kernel
theorem dX10_exclude_12 : decode cX10_exclude 12 = .ok (.goto 4, 3) := by decide +kernel
theorem dX10_exclude_15 : decode cX10_exclude 15 = .ok (.iconst 1, 1) := by decide +kernel
theorem dX10_exclude_16 : decode cX10_exclude 16 = .ok (.putfield 78, 3) := by decide +kernel
theorem dX10_exclude_19 : decode cX10_exclude 19 = .ok (.aload_n 0, 1) := by decide +kernel
theorem dX10_exclude_20 : decode cX10_exclude 20 = .ok (.getfield 78, 3) := by decide +kernel
theorem dX10_exclude_23 : decode cX10_exclude 23 = .ok (.ifCond .eq 5, 3) := by decide +kernel
theorem dX10_exclude_26 : decode cX10_exclude 26 = .ok (.iconst 0, 1) := by decide +kernel
theorem dX10_exclude_27 : decode cX10_exclude 27 = .ok (.ireturn, 1) := by decide +kernel
theorem dX10_exclude_28 : decode cX10_exclude 28 = .ok (.aload_n 0, 1) := by decide +kernel
theorem dX10_exclude_29 : decode cX10_exclude 29 = .ok (.invokevirtual 99, 3) := by decide +kernel
theorem dX10_exclude_32 : decode cX10_exclude 32 = .ok (.aload_n 0, 1) := by decide +kernel
theorem dX10_exclude_33 : decode cX10_exclude 33 = .ok (.getfield 9, 3) := by decide +kernel
theorem dX10_exclude_36 : decode cX10_exclude 36 = .ok (.iconst 3, 1) := by decide +kernel
theorem dX10_exclude_37 : decode cX10_exclude 37 = .ok (.iaload, 1) := by decide +kernel
theorem dX10_exclude_38 : decode cX10_exclude 38 = .ok (.iload_n 1, 1) := by decide +kernel
theorem dX10_exclude_39 : decode cX10_exclude 39 = .ok (.ishr, 1) := by decide +kernel
theorem dX10_exclude_40 : decode cX10_exclude 40 = .ok (.iconst 1, 1) := by decide +kernel
theorem dX10_exclude_41 : decode cX10_exclude 41 = .ok (.iand, 1) := by decide +kernel
theorem dX10_exclude_42 : decode cX10_exclude 42 = .ok (.iconst 1, 1) := by decide +kernel
theorem dX10_exclude_43 : decode cX10_exclude 43 = .ok (.if_icmp .ne 7, 3) := by decide +kernel
theorem dX10_exclude_46 : decode cX10_exclude 46 = .ok (.iconst 1, 1) := by decide +kernel
theorem dX10_exclude_47 : decode cX10_exclude 47 = .ok (.goto 4, 3) := by decide +kernel
theorem dX10_exclude_50 : decode cX10_exclude 50 = .ok (.iconst 0, 1) := by decide +kernel
theorem dX10_exclude_51 : decode cX10_exclude 51 = .ok (.istore_n 3, 1) := by decide +kernel
theorem dX10_exclude_52 : decode cX10_exclude 52 = .ok (.aload_n 0, 1) := by decide +kernel
theorem dX10_exclude_53 : decode cX10_exclude 53 = .ok (.getfield 9, 3) := by decide +kernel
theorem dX10_exclude_56 : decode cX10_exclude 56 = .ok (.iconst 3, 1) := by decide +kernel
theorem dX10_exclude_57 : decode cX10_exclude 57 = .ok (.iload_n 2, 1) := by decide +kernel
theorem dX10_exclude_58 : decode cX10_exclude 58 = .ok (.ifCond .eq 16, 3) := by decide +kernel
theorem dX10_exclude_61 : decode cX10_exclude 61 = .ok (.aload_n 0, 1) := by decide +kernel
theorem dX10_exclude_62 : decode cX10_exclude 62 = .ok (.getfield 9, 3) := by decide +kernel
theorem dX10_exclude_65 : decode cX10_exclude 65 = .ok (.iconst 3, 1) := by decide +kernel
theorem dX10_exclude_66 : decode cX10_exclude 66 = .ok (.iaload, 1) := by decide +kernel
theorem dX10_exclude_67 : decode cX10_exclude 67 = .ok (.iconst 1, 1) := by decide +kernel
theorem dX10_exclude_68 : decode cX10_exclude 68 = .ok (.iload_n 1, 1) := by decide +kernel
theorem dX10_exclude_69 : decode cX10_exclude 69 = .ok (.ishl, 1) := by decide +kernel
theorem dX10_exclude_70 : decode cX10_exclude 70 = .ok (.ior, 1) := by decide +kernel
theorem dX10_exclude_71 : decode cX10_exclude 71 = .ok (.goto 15, 3) := by decide +kernel
theorem dX10_exclude_74 : decode cX10_exclude 74 = .ok (.aload_n 0, 1) := by decide +kernel
theorem dX10_exclude_75 : decode cX10_exclude 75 = .ok (.getfield 9, 3) := by decide +kernel
theorem dX10_exclude_78 : decode cX10_exclude 78 = .ok (.iconst 3, 1) := by decide +kernel
theorem dX10_exclude_79 : decode cX10_exclude 79 = .ok (.iaload, 1) := by decide +kernel
theorem dX10_exclude_80 : decode cX10_exclude 80 = .ok (.iconst 1, 1) := by decide +kernel
theorem dX10_exclude_81 : decode cX10_exclude 81 = .ok (.iload_n 1, 1) := by decide +kernel
theorem dX10_exclude_82 : decode cX10_exclude 82 = .ok (.ishl, 1) := by decide +kernel
theorem dX10_exclude_83 : decode cX10_exclude 83 = .ok (.iconst (-1), 1) := by decide +kernel
theorem dX10_exclude_84 : decode cX10_exclude 84 = .ok (.ixor, 1) := by decide +kernel
theorem dX10_exclude_85 : decode cX10_exclude 85 = .ok (.iand, 1) := by decide +kernel
theorem dX10_exclude_86 : decode cX10_exclude 86 = .ok (.iastore, 1) := by decide +kernel
theorem dX10_exclude_87 : decode cX10_exclude 87 = .ok (.iload_n 3, 1) := by decide +kernel
theorem dX10_exclude_88 : decode cX10_exclude 88 = .ok (.ireturn, 1) := by decide +kernel
theorem dX10_setting_0 : decode cX10_setting 0 = .ok (.aload_n 0, 1) := by decide +kernel
theorem dX10_setting_1 : decode cX10_setting 1 = .ok (.iload_n 1, 1) := by decide +kernel
theorem dX10_setting_2 : decode cX10_setting 2 = .ok (.iconst 0, 1) := by decide +kernel
theorem dX10_setting_3 : decode cX10_setting 3 = .ok (.bipush 7, 2) := by decide +kernel
theorem dX10_setting_5 : decode cX10_setting 5 = .ok (.invokestatic 88, 3) := by decide +kernel
theorem dX10_setting_8 : decode cX10_setting 8 = .ok (.ifCond .eq 7, 3) := by decide +kernel
theorem dX10_setting_11 : decode cX10_setting 11 = .ok (.iconst 0, 1) := by decide +kernel
theorem dX10_setting_12 : decode cX10_setting 12 = .ok (.goto 4, 3) := by decide +kernel
theorem dX10_setting_15 : decode cX10_setting 15 = .ok (.iconst 1, 1) := by decide +kernel
theorem dX10_setting_16 : decode cX10_setting 16 = .ok (.putfield 78, 3) := by decide +kernel
theorem dX10_setting_19 : decode cX10_setting 19 = .ok (.aload_n 0, 1) := by decide +kernel
theorem dX10_setting_20 : decode cX10_setting 20 = .ok (.getfield 78, 3) := by decide +kernel
theorem dX10_setting_23 : decode cX10_setting 23 = .ok (.ifCond .eq 5, 3) := by decide +kernel
theorem dX10_setting_26 : decode cX10_setting 26 = .ok (.iconst 0, 1) := by decide +kernel
theorem dX10_setting_27 : decode cX10_setting 27 = .ok (.ireturn, 1) := by decide +kernel
theorem dX10_setting_28 : decode cX10_setting 28 = .ok (.iload_n 1, 1) := by decide +kernel
theorem dX10_setting_29 : decode cX10_setting 29 = .ok (.iconst 5, 1) := by decide +kernel
theorem dX10_setting_30 : decode cX10_setting 30 = .ok (.if_icmp .ge 12, 3) := by decide +kernel
theorem dX10_setting_33 : decode cX10_setting 33 = .ok (.aload_n 0, 1) := by decide +kernel
theorem dX10_setting_34 : decode cX10_setting 34 = .ok (.getfield 9, 3) := by decide +kernel
theorem dX10_setting_37 : decode cX10_setting 37 = .ok (.iload_n 1, 1) := by decide +kernel
theorem dX10_setting_38 : decode cX10_setting 38 = .ok (.iaload, 1) := by decide +kernel
theorem dX10_setting_39 : decode cX10_setting 39 = .ok (.goto 34, 3) := by decide +kernel
theorem dX10_setting_42 : decode cX10_setting 42 = .ok (.iload_n 1, 1) := by decide +kernel
theorem dX10_setting_43 : decode cX10_setting 43 = .ok (.iconst 5, 1) := by decide +kernel
theorem dX10_setting_44 : decode cX10_setting 44 = .ok (.if_icmp .ne 10, 3) := by decide +kernel
theorem dX10_setting_47 : decode cX10_setting 47 = .ok (.aload_n 0, 1) := by decide +kernel
theorem dX10_setting_48 : decode cX10_setting 48 = .ok (.getfield 96, 3) := by decide +kernel
theorem dX10_setting_51 : decode cX10_setting 51 = .ok (.goto 22, 3) := by decide +kernel
theorem dX10_setting_54 : decode cX10_setting 54 = .ok (.iload_n 1, 1) := by decide +kernel
theorem dX10_setting_55 : decode cX10_setting 55 = .ok (.bipush 6, 2) := by decide +kernel
theorem dX10_setting_57 : decode cX10_setting 57 = .ok (.if_icmp .ne 10, 3) := by decide +kernel
theorem dX10_setting_60 : decode cX10_setting 60 = .ok (.aload_n 0, 1) := by decide +kernel
theorem dX10_setting_61 : decode cX10_setting 61 = .ok (.getfield 81, 3) := by decide +kernel
theorem dX10_setting_64 : decode cX10_setting 64 = .ok (.goto 9, 3) := by decide +kernel
theorem dX10_setting_67 : decode cX10_setting 67 = .ok (.aload_n 0, 1) := by decide +kernel
theorem dX10_setting_68 : decode cX10_setting 68 = .ok (.getfield 9, 3) := by decide +kernel
theorem dX10_setting_71 : decode cX10_setting 71 = .ok (.iconst 5, 1) := by decide +kernel
theorem dX10_setting_72 : decode cX10_setting 72 = .ok (.iaload, 1) := by decide +kernel
theorem dX10_setting_73 : decode cX10_setting 73 = .ok (.ireturn, 1) := by decide +kernel
theorem dX10_holds_0 : decode cX10_holds 0 = .ok (.aload_n 0, 1) := by decide +kernel
theorem dX10_holds_1 : decode cX10_holds 1 = .ok (.getfield 50, 3) := by decide +kernel
theorem dX10_holds_4 : decode cX10_holds 4 = .ok (.iload_n 2, 1) := by decide +kernel
theorem dX10_holds_5 : decode cX10_holds 5 = .ok (.iaload, 1) := by decide +kernel
theorem dX10_holds_6 : decode cX10_holds 6 = .ok (.istore_n 3, 1) := by decide +kernel
theorem dX10_holds_7 : decode cX10_holds 7 = .ok (.aload_n 0, 1) := by decide +kernel
theorem dX10_holds_8 : decode cX10_holds 8 = .ok (.getfield 47, 3) := by decide +kernel
theorem dX10_holds_11 : decode cX10_holds 11 = .ok (.iload_n 2, 1) := by decide +kernel
theorem dX10_holds_12 : decode cX10_holds 12 = .ok (.iaload, 1) := by decide +kernel
theorem dX10_holds_13 : decode cX10_holds 13 = .ok (.istore 4, 2) := by decide +kernel
theorem dX10_holds_15 : decode cX10_holds 15 = .ok (.iload 4, 2) := by decide +kernel
theorem dX10_holds_17 : decode cX10_holds 17 = .ok (.ifCond .ne 20, 3) := by decide +kernel
theorem dX10_holds_20 : decode cX10_holds 20 = .ok (.aload_n 0, 1) := by decide +kernel
theorem dX10_holds_21 : decode cX10_holds 21 = .ok (.iload_n 1, 1) := by decide +kernel
theorem dX10_holds_22 : decode cX10_holds 22 = .ok (.iload_n 3, 1) := by decide +kernel
theorem dX10_holds_23 : decode cX10_holds 23 = .ok (.invokevirtual 109, 3) := by decide +kernel
theorem dX10_holds_26 : decode cX10_holds 26 = .ok (.ifCond .le 7, 3) := by decide +kernel
theorem dX10_holds_29 : decode cX10_holds 29 = .ok (.iconst 1, 1) := by decide +kernel
theorem dX10_holds_30 : decode cX10_holds 30 = .ok (.goto 90, 3) := by decide +kernel
theorem dX10_holds_33 : decode cX10_holds 33 = .ok (.iconst 0, 1) := by decide +kernel
theorem dX10_holds_34 : decode cX10_holds 34 = .ok (.goto 86, 3) := by decide +kernel
theorem dX10_holds_37 : decode cX10_holds 37 = .ok (.iload 4, 2) := by decide +kernel
theorem dX10_holds_39 : decode cX10_holds 39 = .ok (.iconst 1, 1) := by decide +kernel
theorem dX10_holds_40 : decode cX10_holds 40 = .ok (.if_icmp .ne 20, 3) := by decide +kernel
theorem dX10_holds_43 : decode cX10_holds 43 = .ok (.aload_n 0, 1) := by decide +kernel
theorem dX10_holds_44 : decode cX10_holds 44 = .ok (.iload_n 1, 1) := by decide +kernel
theorem dX10_holds_45 : decode cX10_holds 45 = .ok (.invokevirtual 92, 3) := by decide +kernel
theorem dX10_holds_48 : decode cX10_holds 48 = .ok (.iload_n 3, 1) := by decide +kernel
theorem dX10_holds_49 : decode cX10_holds 49 = .ok (.if_icmp .ne 7, 3) := by decide +kernel
theorem dX10_holds_52 : decode cX10_holds 52 = .ok (.iconst 1, 1) := by decide +kernel
theorem dX10_holds_53 : decode cX10_holds 53 = .ok (.goto 67, 3) := by decide +kernel
theorem dX10_holds_56 : decode cX10_holds 56 = .ok (.iconst 0, 1) := by decide +kernel
theorem dX10_holds_57 : decode cX10_holds 57 = .ok (.goto 63, 3) := by decide +kernel
theorem dX10_holds_60 : decode cX10_holds 60 = .ok (.iload 4, 2) := by decide +kernel
theorem dX10_holds_62 : decode cX10_holds 62 = .ok (.iconst 2, 1) := by decide +kernel
theorem dX10_holds_63 : decode cX10_holds 63 = .ok (.if_icmp .ne 20, 3) := by decide +kernel
theorem dX10_holds_66 : decode cX10_holds 66 = .ok (.aload_n 0, 1) := by decide +kernel
theorem dX10_holds_67 : decode cX10_holds 67 = .ok (.iload_n 1, 1) := by decide +kernel
theorem dX10_holds_68 : decode cX10_holds 68 = .ok (.invokevirtual 141, 3) := by decide +kernel
theorem dX10_holds_71 : decode cX10_holds 71 = .ok (.iload_n 3, 1) := by decide +kernel
theorem dX10_holds_72 : decode cX10_holds 72 = .ok (.if_icmp .ge 7, 3) := by decide +kernel
theorem dX10_holds_75 : decode cX10_holds 75 = .ok (.iconst 1, 1) := by decide +kernel
theorem dX10_holds_76 : decode cX10_holds 76 = .ok (.goto 44, 3) := by decide +kernel
theorem dX10_holds_79 : decode cX10_holds 79 = .ok (.iconst 0, 1) := by decide +kernel
theorem dX10_holds_80 : decode cX10_holds 80 = .ok (.goto 40, 3) := by decide +kernel
theorem dX10_holds_83 : decode cX10_holds 83 = .ok (.iload 4, 2) := by decide +kernel
theorem dX10_holds_85 : decode cX10_holds 85 = .ok (.iconst 3, 1) := by decide +kernel
theorem dX10_holds_86 : decode cX10_holds 86 = .ok (.if_icmp .ne 20, 3) := by decide +kernel
theorem dX10_holds_89 : decode cX10_holds 89 = .ok (.aload_n 0, 1) := by decide +kernel
theorem dX10_holds_90 : decode cX10_holds 90 = .ok (.iload_n 1, 1) := by decide +kernel
theorem dX10_holds_91 : decode cX10_holds 91 = .ok (.invokevirtual 141, 3) := by decide +kernel
theorem dX10_holds_94 : decode cX10_holds 94 = .ok (.iload_n 3, 1) := by decide +kernel
theorem dX10_holds_95 : decode cX10_holds 95 = .ok (.if_icmp .ne 7, 3) := by decide +kernel
theorem dX10_holds_98 : decode cX10_holds 98 = .ok (.iconst 1, 1) := by decide +kernel
theorem dX10_holds_99 : decode cX10_holds 99 = .ok (.goto 21, 3) := by decide +kernel
theorem dX10_holds_102 : decode cX10_holds 102 = .ok (.iconst 0, 1) := by decide +kernel
theorem dX10_holds_103 : decode cX10_holds 103 = .ok (.goto 17, 3) := by decide +kernel
theorem dX10_holds_106 : decode cX10_holds 106 = .ok (.aload_n 0, 1) := by decide +kernel
theorem dX10_holds_107 : decode cX10_holds 107 = .ok (.iload_n 1, 1) := by decide +kernel
theorem dX10_holds_108 : decode cX10_holds 108 = .ok (.invokevirtual 141, 3) := by decide +kernel
theorem dX10_holds_111 : decode cX10_holds 111 = .ok (.iload_n 3, 1) := by decide +kernel
theorem dX10_holds_112 : decode cX10_holds 112 = .ok (.if_icmp .le 7, 3) := by decide +kernel
theorem dX10_holds_115 : decode cX10_holds 115 = .ok (.iconst 1, 1) := by decide +kernel
theorem dX10_holds_116 : decode cX10_holds 116 = .ok (.goto 4, 3) := by decide +kernel
theorem dX10_holds_119 : decode cX10_holds 119 = .ok (.iconst 0, 1) := by decide +kernel
theorem dX10_holds_120 : decode cX10_holds 120 = .ok (.istore 5, 2) := by decide +kernel
theorem dX10_holds_122 : decode cX10_holds 122 = .ok (.iload 5, 2) := by decide +kernel
theorem dX10_holds_124 : decode cX10_holds 124 = .ok (.aload_n 0, 1) := by decide +kernel
theorem dX10_holds_125 : decode cX10_holds 125 = .ok (.getfield 53, 3) := by decide +kernel
theorem dX10_holds_128 : decode cX10_holds 128 = .ok (.iload_n 2, 1) := by decide +kernel
theorem dX10_holds_129 : decode cX10_holds 129 = .ok (.baload, 1) := by decide +kernel
theorem dX10_holds_130 : decode cX10_holds 130 = .ok (.if_icmp .eq 7, 3) := by decide +kernel
theorem dX10_holds_133 : decode cX10_holds 133 = .ok (.iconst 1, 1) := by decide +kernel
theorem dX10_holds_134 : decode cX10_holds 134 = .ok (.goto 4, 3) := by decide +kernel
theorem dX10_holds_137 : decode cX10_holds 137 = .ok (.iconst 0, 1) := by decide +kernel
theorem dX10_holds_138 : decode cX10_holds 138 = .ok (.ireturn, 1) := by decide +kernel
theorem dX10_hasRoom_0 : decode cX10_hasRoom 0 = .ok (.aload_n 0, 1) := by decide +kernel
theorem dX10_hasRoom_1 : decode cX10_hasRoom 1 = .ok (.getfield 215, 3) := by decide +kernel
theorem dX10_hasRoom_4 : decode cX10_hasRoom 4 = .ok (.iload_n 1, 1) := by decide +kernel
theorem dX10_hasRoom_5 : decode cX10_hasRoom 5 = .ok (.iadd, 1) := by decide +kernel
theorem dX10_hasRoom_6 : decode cX10_hasRoom 6 = .ok (.aload_n 0, 1) := by decide +kernel
theorem dX10_hasRoom_7 : decode cX10_hasRoom 7 = .ok (.getfield 9, 3) := by decide +kernel
theorem dX10_hasRoom_10 : decode cX10_hasRoom 10 = .ok (.iconst 4, 1) := by decide +kernel
theorem dX10_hasRoom_11 : decode cX10_hasRoom 11 = .ok (.iaload, 1) := by decide +kernel
theorem dX10_hasRoom_12 : decode cX10_hasRoom 12 = .ok (.if_icmp .gt 7, 3) := by decide +kernel
theorem dX10_hasRoom_15 : decode cX10_hasRoom 15 = .ok (.iconst 1, 1) := by decide +kernel
theorem dX10_hasRoom_16 : decode cX10_hasRoom 16 = .ok (.goto 4, 3) := by decide +kernel
theorem dX10_hasRoom_19 : decode cX10_hasRoom 19 = .ok (.iconst 0, 1) := by decide +kernel
theorem dX10_hasRoom_20 : decode cX10_hasRoom 20 = .ok (.ireturn, 1) := by decide +kernel
theorem dX10_writes_0 : decode cX10_writes 0 = .ok (.aload_n 0, 1) := by decide +kernel
theorem dX10_writes_1 : decode cX10_writes 1 = .ok (.getfield 57, 3) := by decide +kernel
theorem dX10_writes_4 : decode cX10_writes 4 = .ok (.aload_n 0, 1) := by decide +kernel
theorem dX10_writes_5 : decode cX10_writes 5 = .ok (.getfield 215, 3) := by decide +kernel
theorem dX10_writes_8 : decode cX10_writes 8 = .ok (.iload_n 1, 1) := by decide +kernel
theorem dX10_writes_9 : decode cX10_writes 9 = .ok (.iastore, 1) := by decide +kernel
theorem dX10_writes_10 : decode cX10_writes 10 = .ok (.aload_n 0, 1) := by decide +kernel
theorem dX10_writes_11 : decode cX10_writes 11 = .ok (.dup, 1) := by decide +kernel
theorem dX10_writes_12 : decode cX10_writes 12 = .ok (.getfield 215, 3) := by decide +kernel
theorem dX10_writes_15 : decode cX10_writes 15 = .ok (.iconst 1, 1) := by decide +kernel
theorem dX10_writes_16 : decode cX10_writes 16 = .ok (.iadd, 1) := by decide +kernel
theorem dX10_writes_17 : decode cX10_writes 17 = .ok (.putfield 215, 3) := by decide +kernel
theorem dX10_writes_20 : decode cX10_writes 20 = .ok (.return_, 1) := by decide +kernel
theorem dX10_addressLong_0 : decode cX10_addressLong 0 = .ok (.iconst (-1), 1) := by decide +kernel
theorem dX10_addressLong_1 : decode cX10_addressLong 1 = .ok (.istore_n 2, 1) := by decide +kernel
theorem dX10_addressLong_2 : decode cX10_addressLong 2 = .ok (.iconst 0, 1) := by decide +kernel
theorem dX10_addressLong_3 : decode cX10_addressLong 3 = .ok (.istore_n 3, 1) := by decide +kernel
theorem dX10_addressLong_4 : decode cX10_addressLong 4 = .ok (.iload_n 3, 1) := by decide +kernel
theorem dX10_addressLong_5 : decode cX10_addressLong 5 = .ok (.iconst 5, 1) := by decide +kernel
theorem dX10_addressLong_6 : decode cX10_addressLong 6 = .ok (.if_icmp .ge 33, 3) := by decide +kernel
theorem dX10_addressLong_9 : decode cX10_addressLong 9 = .ok (.iload_n 2, 1) := by decide +kernel
theorem dX10_addressLong_10 : decode cX10_addressLong 10 = .ok (.aload_n 0, 1) := by decide +kernel
theorem dX10_addressLong_11 : decode cX10_addressLong 11 = .ok (.iload_n 1, 1) := by decide +kernel
theorem dX10_addressLong_12 : decode cX10_addressLong 12 = .ok (.iload_n 3, 1) := by decide +kernel
theorem dX10_addressLong_13 : decode cX10_addressLong 13 = .ok (.invokevirtual 137, 3) := by decide +kernel
theorem dX10_addressLong_16 : decode cX10_addressLong 16 = .ok (.ifCond .eq 14, 3) := by decide +kernel
theorem dX10_addressLong_19 : decode cX10_addressLong 19 = .ok (.aload_n 0, 1) := by decide +kernel
theorem dX10_addressLong_20 : decode cX10_addressLong 20 = .ok (.iload_n 1, 1) := by decide +kernel
theorem dX10_addressLong_21 : decode cX10_addressLong 21 = .ok (.iload_n 3, 1) := by decide +kernel
theorem dX10_addressLong_22 : decode cX10_addressLong 22 = .ok (.invokevirtual 109, 3) := by decide +kernel
theorem dX10_addressLong_25 : decode cX10_addressLong 25 = .ok (.iconst 1, 1) := by decide +kernel
theorem dX10_addressLong_26 : decode cX10_addressLong 26 = .ok (.iadd, 1) := by decide +kernel
theorem dX10_addressLong_27 : decode cX10_addressLong 27 = .ok (.goto 4, 3) := by decide +kernel
theorem dX10_addressLong_30 : decode cX10_addressLong 30 = .ok (.iconst 0, 1) := by decide +kernel
theorem dX10_addressLong_31 : decode cX10_addressLong 31 = .ok (.iadd, 1) := by decide +kernel
theorem dX10_addressLong_32 : decode cX10_addressLong 32 = .ok (.istore_n 2, 1) := by decide +kernel
theorem dX10_addressLong_33 : decode cX10_addressLong 33 = .ok (.iinc 3 1, 3) := by decide +kernel
theorem dX10_addressLong_36 : decode cX10_addressLong 36 = .ok (.goto (-32), 3) := by decide +kernel
theorem dX10_addressLong_39 : decode cX10_addressLong 39 = .ok (.iload_n 2, 1) := by decide +kernel
theorem dX10_addressLong_40 : decode cX10_addressLong 40 = .ok (.ireturn, 1) := by decide +kernel
theorem dX10_writesAddress_0 : decode cX10_writesAddress 0 = .ok (.iconst 1, 1) := by decide +kernel
theorem dX10_writesAddress_1 : decode cX10_writesAddress 1 = .ok (.istore_n 2, 1) := by decide +kernel
theorem dX10_writesAddress_2 : decode cX10_writesAddress 2 = .ok (.iconst 0, 1) := by decide +kernel
theorem dX10_writesAddress_3 : decode cX10_writesAddress 3 = .ok (.istore_n 3, 1) := by decide +kernel
theorem dX10_writesAddress_4 : decode cX10_writesAddress 4 = .ok (.iload_n 3, 1) := by decide +kernel
theorem dX10_writesAddress_5 : decode cX10_writesAddress 5 = .ok (.iconst 5, 1) := by decide +kernel
theorem dX10_writesAddress_6 : decode cX10_writesAddress 6 = .ok (.if_icmp .ge 65, 3) := by decide +kernel
theorem dX10_writesAddress_9 : decode cX10_writesAddress 9 = .ok (.aload_n 0, 1) := by decide +kernel
theorem dX10_writesAddress_10 : decode cX10_writesAddress 10 = .ok (.iload_n 1, 1) := by decide +kernel
theorem dX10_writesAddress_11 : decode cX10_writesAddress 11 = .ok (.iload_n 3, 1) := by decide +kernel
theorem dX10_writesAddress_12 : decode cX10_writesAddress 12 = .ok (.invokevirtual 137, 3) := by decide +kernel
theorem dX10_writesAddress_15 : decode cX10_writesAddress 15 = .ok (.ifCond .ne 6, 3) := by decide +kernel
theorem dX10_writesAddress_18 : decode cX10_writesAddress 18 = .ok (.goto 47, 3) := by decide +kernel
theorem dX10_writesAddress_21 : decode cX10_writesAddress 21 = .ok (.iload_n 2, 1) := by decide +kernel
theorem dX10_writesAddress_22 : decode cX10_writesAddress 22 = .ok (.ifCond .ne 9, 3) := by decide +kernel
theorem dX10_writesAddress_25 : decode cX10_writesAddress 25 = .ok (.aload_n 0, 1) := by decide +kernel
theorem dX10_writesAddress_26 : decode cX10_writesAddress 26 = .ok (.bipush 47, 2) := by decide +kernel
theorem dX10_writesAddress_28 : decode cX10_writesAddress 28 = .ok (.invokevirtual 218, 3) := by decide +kernel
theorem dX10_writesAddress_31 : decode cX10_writesAddress 31 = .ok (.iconst 0, 1) := by decide +kernel
theorem dX10_writesAddress_32 : decode cX10_writesAddress 32 = .ok (.istore_n 2, 1) := by decide +kernel
theorem dX10_writesAddress_33 : decode cX10_writesAddress 33 = .ok (.iconst 0, 1) := by decide +kernel
theorem dX10_writesAddress_34 : decode cX10_writesAddress 34 = .ok (.istore 4, 2) := by decide +kernel
theorem dX10_writesAddress_36 : decode cX10_writesAddress 36 = .ok (.iload 4, 2) := by decide +kernel
theorem dX10_writesAddress_38 : decode cX10_writesAddress 38 = .ok (.aload_n 0, 1) := by decide +kernel
theorem dX10_writesAddress_39 : decode cX10_writesAddress 39 = .ok (.iload_n 1, 1) := by decide +kernel
theorem dX10_writesAddress_40 : decode cX10_writesAddress 40 = .ok (.iload_n 3, 1) := by decide +kernel
theorem dX10_writesAddress_41 : decode cX10_writesAddress 41 = .ok (.invokevirtual 109, 3) := by decide +kernel
theorem dX10_writesAddress_44 : decode cX10_writesAddress 44 = .ok (.if_icmp .ge 21, 3) := by decide +kernel
theorem dX10_writesAddress_47 : decode cX10_writesAddress 47 = .ok (.aload_n 0, 1) := by decide +kernel
theorem dX10_writesAddress_48 : decode cX10_writesAddress 48 = .ok (.aload_n 0, 1) := by decide +kernel
theorem dX10_writesAddress_49 : decode cX10_writesAddress 49 = .ok (.iload_n 1, 1) := by decide +kernel
theorem dX10_writesAddress_50 : decode cX10_writesAddress 50 = .ok (.iload_n 3, 1) := by decide +kernel
theorem dX10_writesAddress_51 : decode cX10_writesAddress 51 = .ok (.iload 4, 2) := by decide +kernel
theorem dX10_writesAddress_53 : decode cX10_writesAddress 53 = .ok (.invokevirtual 113, 3) := by decide +kernel
theorem dX10_writesAddress_56 : decode cX10_writesAddress 56 = .ok (.invokevirtual 218, 3) := by decide +kernel
theorem dX10_writesAddress_59 : decode cX10_writesAddress 59 = .ok (.iinc 4 1, 3) := by decide +kernel
theorem dX10_writesAddress_62 : decode cX10_writesAddress 62 = .ok (.goto (-26), 3) := by decide +kernel
theorem dX10_writesAddress_65 : decode cX10_writesAddress 65 = .ok (.iinc 3 1, 3) := by decide +kernel
theorem dX10_writesAddress_68 : decode cX10_writesAddress 68 = .ok (.goto (-64), 3) := by decide +kernel
theorem dX10_writesAddress_71 : decode cX10_writesAddress 71 = .ok (.return_, 1) := by decide +kernel
theorem dX10_writesField_0 : decode cX10_writesField 0 = .ok (.iconst 0, 1) := by decide +kernel
theorem dX10_writesField_1 : decode cX10_writesField 1 = .ok (.istore 4, 2) := by decide +kernel
theorem dX10_writesField_3 : decode cX10_writesField 3 = .ok (.iload 4, 2) := by decide +kernel
theorem dX10_writesField_5 : decode cX10_writesField 5 = .ok (.aload_n 0, 1) := by decide +kernel
theorem dX10_writesField_6 : decode cX10_writesField 6 = .ok (.iload_n 1, 1) := by decide +kernel
theorem dX10_writesField_7 : decode cX10_writesField 7 = .ok (.iload_n 2, 1) := by decide +kernel
theorem dX10_writesField_8 : decode cX10_writesField 8 = .ok (.invokevirtual 109, 3) := by decide +kernel
theorem dX10_writesField_11 : decode cX10_writesField 11 = .ok (.if_icmp .ge 60, 3) := by decide +kernel
theorem dX10_writesField_14 : decode cX10_writesField 14 = .ok (.aload_n 0, 1) := by decide +kernel
theorem dX10_writesField_15 : decode cX10_writesField 15 = .ok (.iload_n 1, 1) := by decide +kernel
theorem dX10_writesField_16 : decode cX10_writesField 16 = .ok (.iload_n 2, 1) := by decide +kernel
theorem dX10_writesField_17 : decode cX10_writesField 17 = .ok (.iload 4, 2) := by decide +kernel
theorem dX10_writesField_19 : decode cX10_writesField 19 = .ok (.invokevirtual 113, 3) := by decide +kernel
theorem dX10_writesField_22 : decode cX10_writesField 22 = .ok (.istore 5, 2) := by decide +kernel
theorem dX10_writesField_24 : decode cX10_writesField 24 = .ok (.aload_n 0, 1) := by decide +kernel
theorem dX10_writesField_25 : decode cX10_writesField 25 = .ok (.iload 5, 2) := by decide +kernel
theorem dX10_writesField_27 : decode cX10_writesField 27 = .ok (.bipush 97, 2) := by decide +kernel
theorem dX10_writesField_29 : decode cX10_writesField 29 = .ok (.bipush 122, 2) := by decide +kernel
theorem dX10_writesField_31 : decode cX10_writesField 31 = .ok (.invokestatic 88, 3) := by decide +kernel
theorem dX10_writesField_34 : decode cX10_writesField 34 = .ok (.ifCond .eq 26, 3) := by decide +kernel
theorem dX10_writesField_37 : decode cX10_writesField 37 = .ok (.iload_n 3, 1) := by decide +kernel
theorem dX10_writesField_38 : decode cX10_writesField 38 = .ok (.iconst 2, 1) := by decide +kernel
theorem dX10_writesField_39 : decode cX10_writesField 39 = .ok (.if_icmp .eq 13, 3) := by decide +kernel
theorem dX10_writesField_42 : decode cX10_writesField 42 = .ok (.iload_n 3, 1) := by decide +kernel
theorem dX10_writesField_43 : decode cX10_writesField 43 = .ok (.iconst 1, 1) := by decide +kernel
theorem dX10_writesField_44 : decode cX10_writesField 44 = .ok (.if_icmp .ne 16, 3) := by decide +kernel
theorem dX10_writesField_47 : decode cX10_writesField 47 = .ok (.iload 4, 2) := by decide +kernel
theorem dX10_writesField_49 : decode cX10_writesField 49 = .ok (.ifCond .ne 11, 3) := by decide +kernel
theorem dX10_writesField_52 : decode cX10_writesField 52 = .ok (.iload 5, 2) := by decide +kernel
theorem dX10_writesField_54 : decode cX10_writesField 54 = .ok (.bipush 32, 2) := by decide +kernel
theorem dX10_writesField_56 : decode cX10_writesField 56 = .ok (.isub, 1) := by decide +kernel
theorem dX10_writesField_57 : decode cX10_writesField 57 = .ok (.goto 5, 3) := by decide +kernel
theorem dX10_writesField_60 : decode cX10_writesField 60 = .ok (.iload 5, 2) := by decide +kernel
theorem dX10_writesField_62 : decode cX10_writesField 62 = .ok (.invokevirtual 218, 3) := by decide +kernel
theorem dX10_writesField_65 : decode cX10_writesField 65 = .ok (.iinc 4 1, 3) := by decide +kernel
theorem dX10_writesField_68 : decode cX10_writesField 68 = .ok (.goto (-65), 3) := by decide +kernel
theorem dX10_writesField_71 : decode cX10_writesField 71 = .ok (.return_, 1) := by decide +kernel
theorem dX10_gives_0 : decode cX10_gives 0 = .ok (.aload_n 0, 1) := by decide +kernel
theorem dX10_gives_1 : decode cX10_gives 1 = .ok (.iload_n 1, 1) := by decide +kernel
theorem dX10_gives_2 : decode cX10_gives 2 = .ok (.invokevirtual 141, 3) := by decide +kernel
theorem dX10_gives_5 : decode cX10_gives 5 = .ok (.istore_n 3, 1) := by decide +kernel
theorem dX10_gives_6 : decode cX10_gives 6 = .ok (.aload_n 0, 1) := by decide +kernel
theorem dX10_gives_7 : decode cX10_gives 7 = .ok (.getfield 38, 3) := by decide +kernel
theorem dX10_gives_10 : decode cX10_gives 10 = .ok (.iload_n 2, 1) := by decide +kernel
theorem dX10_gives_11 : decode cX10_gives 11 = .ok (.iaload, 1) := by decide +kernel
theorem dX10_gives_12 : decode cX10_gives 12 = .ok (.istore 4, 2) := by decide +kernel
theorem dX10_gives_14 : decode cX10_gives 14 = .ok (.aload_n 0, 1) := by decide +kernel
theorem dX10_gives_15 : decode cX10_gives 15 = .ok (.getfield 32, 3) := by decide +kernel
theorem dX10_gives_18 : decode cX10_gives 18 = .ok (.iload_n 2, 1) := by decide +kernel
theorem dX10_gives_19 : decode cX10_gives 19 = .ok (.iaload, 1) := by decide +kernel
theorem dX10_gives_20 : decode cX10_gives 20 = .ok (.tableswitch 174 0 3 #[32, 50, 100, 131], 32) := by decide +kernel
theorem dX10_gives_52 : decode cX10_gives 52 = .ok (.aload_n 0, 1) := by decide +kernel
theorem dX10_gives_53 : decode cX10_gives 53 = .ok (.iconst 1, 1) := by decide +kernel
theorem dX10_gives_54 : decode cX10_gives 54 = .ok (.invokevirtual 221, 3) := by decide +kernel
theorem dX10_gives_57 : decode cX10_gives 57 = .ok (.ifCond .ne 5, 3) := by decide +kernel
theorem dX10_gives_60 : decode cX10_gives 60 = .ok (.iconst 4, 1) := by decide +kernel
theorem dX10_gives_61 : decode cX10_gives 61 = .ok (.ireturn, 1) := by decide +kernel
theorem dX10_gives_62 : decode cX10_gives 62 = .ok (.aload_n 0, 1) := by decide +kernel
theorem dX10_gives_63 : decode cX10_gives 63 = .ok (.iload 4, 2) := by decide +kernel
theorem dX10_gives_65 : decode cX10_gives 65 = .ok (.invokevirtual 218, 3) := by decide +kernel
theorem dX10_gives_68 : decode cX10_gives 68 = .ok (.iconst 0, 1) := by decide +kernel
theorem dX10_gives_69 : decode cX10_gives 69 = .ok (.ireturn, 1) := by decide +kernel
theorem dX10_gives_70 : decode cX10_gives 70 = .ok (.aload_n 0, 1) := by decide +kernel
theorem dX10_gives_71 : decode cX10_gives 71 = .ok (.iload_n 3, 1) := by decide +kernel
theorem dX10_gives_72 : decode cX10_gives 72 = .ok (.bipush 9, 2) := by decide +kernel
theorem dX10_gives_74 : decode cX10_gives 74 = .ok (.if_icmp .le 7, 3) := by decide +kernel
theorem dX10_gives_77 : decode cX10_gives 77 = .ok (.iconst 2, 1) := by decide +kernel
theorem dX10_gives_78 : decode cX10_gives 78 = .ok (.goto 4, 3) := by decide +kernel
theorem dX10_gives_81 : decode cX10_gives 81 = .ok (.iconst 1, 1) := by decide +kernel
theorem dX10_gives_82 : decode cX10_gives 82 = .ok (.invokevirtual 221, 3) := by decide +kernel
theorem dX10_gives_85 : decode cX10_gives 85 = .ok (.ifCond .ne 5, 3) := by decide +kernel
theorem dX10_gives_88 : decode cX10_gives 88 = .ok (.iconst 4, 1) := by decide +kernel
theorem dX10_gives_89 : decode cX10_gives 89 = .ok (.ireturn, 1) := by decide +kernel
theorem dX10_gives_90 : decode cX10_gives 90 = .ok (.iload_n 3, 1) := by decide +kernel
theorem dX10_gives_91 : decode cX10_gives 91 = .ok (.bipush 9, 2) := by decide +kernel
theorem dX10_gives_93 : decode cX10_gives 93 = .ok (.if_icmp .le 14, 3) := by decide +kernel
theorem dX10_gives_96 : decode cX10_gives 96 = .ok (.aload_n 0, 1) := by decide +kernel
theorem dX10_gives_97 : decode cX10_gives 97 = .ok (.bipush 48, 2) := by decide +kernel
theorem dX10_gives_99 : decode cX10_gives 99 = .ok (.iload_n 3, 1) := by decide +kernel
theorem dX10_gives_100 : decode cX10_gives 100 = .ok (.bipush 10, 2) := by decide +kernel
theorem dX10_gives_102 : decode cX10_gives 102 = .ok (.idiv, 1) := by decide +kernel
theorem dX10_gives_103 : decode cX10_gives 103 = .ok (.iadd, 1) := by decide +kernel
theorem dX10_gives_104 : decode cX10_gives 104 = .ok (.invokevirtual 218, 3) := by decide +kernel
theorem dX10_gives_107 : decode cX10_gives 107 = .ok (.aload_n 0, 1) := by decide +kernel
theorem dX10_gives_108 : decode cX10_gives 108 = .ok (.bipush 48, 2) := by decide +kernel
theorem dX10_gives_110 : decode cX10_gives 110 = .ok (.iload_n 3, 1) := by decide +kernel
theorem dX10_gives_111 : decode cX10_gives 111 = .ok (.bipush 10, 2) := by decide +kernel
theorem dX10_gives_113 : decode cX10_gives 113 = .ok (.irem, 1) := by decide +kernel
theorem dX10_gives_114 : decode cX10_gives 114 = .ok (.iadd, 1) := by decide +kernel
theorem dX10_gives_115 : decode cX10_gives 115 = .ok (.invokevirtual 218, 3) := by decide +kernel
theorem dX10_gives_118 : decode cX10_gives 118 = .ok (.iconst 0, 1) := by decide +kernel
theorem dX10_gives_119 : decode cX10_gives 119 = .ok (.ireturn, 1) := by decide +kernel
theorem dX10_gives_120 : decode cX10_gives 120 = .ok (.aload_n 0, 1) := by decide +kernel
theorem dX10_gives_121 : decode cX10_gives 121 = .ok (.iload_n 1, 1) := by decide +kernel
theorem dX10_gives_122 : decode cX10_gives 122 = .ok (.invokevirtual 144, 3) := by decide +kernel
theorem dX10_gives_125 : decode cX10_gives 125 = .ok (.ifCond .ne 5, 3) := by decide +kernel
theorem dX10_gives_128 : decode cX10_gives 128 = .ok (.iconst 3, 1) := by decide +kernel
theorem dX10_gives_129 : decode cX10_gives 129 = .ok (.ireturn, 1) := by decide +kernel
theorem dX10_gives_130 : decode cX10_gives 130 = .ok (.aload_n 0, 1) := by decide +kernel
theorem dX10_gives_131 : decode cX10_gives 131 = .ok (.aload_n 0, 1) := by decide +kernel
theorem dX10_gives_132 : decode cX10_gives 132 = .ok (.iload_n 1, 1) := by decide +kernel
theorem dX10_gives_133 : decode cX10_gives 133 = .ok (.invokevirtual 224, 3) := by decide +kernel
theorem dX10_gives_136 : decode cX10_gives 136 = .ok (.invokevirtual 221, 3) := by decide +kernel
theorem dX10_gives_139 : decode cX10_gives 139 = .ok (.ifCond .ne 5, 3) := by decide +kernel
theorem dX10_gives_142 : decode cX10_gives 142 = .ok (.iconst 4, 1) := by decide +kernel
theorem dX10_gives_143 : decode cX10_gives 143 = .ok (.ireturn, 1) := by decide +kernel
theorem dX10_gives_144 : decode cX10_gives 144 = .ok (.aload_n 0, 1) := by decide +kernel
theorem dX10_gives_145 : decode cX10_gives 145 = .ok (.iload_n 1, 1) := by decide +kernel
theorem dX10_gives_146 : decode cX10_gives 146 = .ok (.invokevirtual 227, 3) := by decide +kernel
theorem dX10_gives_149 : decode cX10_gives 149 = .ok (.iconst 0, 1) := by decide +kernel
theorem dX10_gives_150 : decode cX10_gives 150 = .ok (.ireturn, 1) := by decide +kernel
theorem dX10_gives_151 : decode cX10_gives 151 = .ok (.aload_n 0, 1) := by decide +kernel
theorem dX10_gives_152 : decode cX10_gives 152 = .ok (.iload_n 1, 1) := by decide +kernel
theorem dX10_gives_153 : decode cX10_gives 153 = .ok (.iload 4, 2) := by decide +kernel
theorem dX10_gives_155 : decode cX10_gives 155 = .ok (.invokevirtual 109, 3) := by decide +kernel
theorem dX10_gives_158 : decode cX10_gives 158 = .ok (.ifCond .ne 5, 3) := by decide +kernel
theorem dX10_gives_161 : decode cX10_gives 161 = .ok (.iconst 3, 1) := by decide +kernel
theorem dX10_gives_162 : decode cX10_gives 162 = .ok (.ireturn, 1) := by decide +kernel
theorem dX10_gives_163 : decode cX10_gives 163 = .ok (.aload_n 0, 1) := by decide +kernel
theorem dX10_gives_164 : decode cX10_gives 164 = .ok (.aload_n 0, 1) := by decide +kernel
theorem dX10_gives_165 : decode cX10_gives 165 = .ok (.iload_n 1, 1) := by decide +kernel
theorem dX10_gives_166 : decode cX10_gives 166 = .ok (.iload 4, 2) := by decide +kernel
theorem dX10_gives_168 : decode cX10_gives 168 = .ok (.invokevirtual 109, 3) := by decide +kernel
theorem dX10_gives_171 : decode cX10_gives 171 = .ok (.invokevirtual 221, 3) := by decide +kernel
theorem dX10_gives_174 : decode cX10_gives 174 = .ok (.ifCond .ne 5, 3) := by decide +kernel
theorem dX10_gives_177 : decode cX10_gives 177 = .ok (.iconst 4, 1) := by decide +kernel
theorem dX10_gives_178 : decode cX10_gives 178 = .ok (.ireturn, 1) := by decide +kernel
theorem dX10_gives_179 : decode cX10_gives 179 = .ok (.aload_n 0, 1) := by decide +kernel
theorem dX10_gives_180 : decode cX10_gives 180 = .ok (.iload_n 1, 1) := by decide +kernel
theorem dX10_gives_181 : decode cX10_gives 181 = .ok (.iload 4, 2) := by decide +kernel
theorem dX10_gives_183 : decode cX10_gives 183 = .ok (.aload_n 0, 1) := by decide +kernel
theorem dX10_gives_184 : decode cX10_gives 184 = .ok (.getfield 41, 3) := by decide +kernel
theorem dX10_gives_187 : decode cX10_gives 187 = .ok (.iload_n 2, 1) := by decide +kernel
theorem dX10_gives_188 : decode cX10_gives 188 = .ok (.iaload, 1) := by decide +kernel
theorem dX10_gives_189 : decode cX10_gives 189 = .ok (.invokevirtual 230, 3) := by decide +kernel
theorem dX10_gives_192 : decode cX10_gives 192 = .ok (.iconst 0, 1) := by decide +kernel
theorem dX10_gives_193 : decode cX10_gives 193 = .ok (.ireturn, 1) := by decide +kernel
theorem dX10_gives_194 : decode cX10_gives 194 = .ok (.iload_n 3, 1) := by decide +kernel
theorem dX10_gives_195 : decode cX10_gives 195 = .ok (.iconst 1, 1) := by decide +kernel
theorem dX10_gives_196 : decode cX10_gives 196 = .ok (.if_icmp .ne 14, 3) := by decide +kernel
theorem dX10_gives_199 : decode cX10_gives 199 = .ok (.aload_n 0, 1) := by decide +kernel
theorem dX10_gives_200 : decode cX10_gives 200 = .ok (.getfield 35, 3) := by decide +kernel
theorem dX10_gives_203 : decode cX10_gives 203 = .ok (.iload_n 2, 1) := by decide +kernel
theorem dX10_gives_204 : decode cX10_gives 204 = .ok (.iaload, 1) := by decide +kernel
theorem dX10_gives_205 : decode cX10_gives 205 = .ok (.iconst 1, 1) := by decide +kernel
theorem dX10_gives_206 : decode cX10_gives 206 = .ok (.iadd, 1) := by decide +kernel
theorem dX10_gives_207 : decode cX10_gives 207 = .ok (.goto 7, 3) := by decide +kernel
theorem dX10_gives_210 : decode cX10_gives 210 = .ok (.iload 4, 2) := by decide +kernel
theorem dX10_gives_212 : decode cX10_gives 212 = .ok (.iconst 1, 1) := by decide +kernel
theorem dX10_gives_213 : decode cX10_gives 213 = .ok (.iadd, 1) := by decide +kernel
theorem dX10_gives_214 : decode cX10_gives 214 = .ok (.istore 5, 2) := by decide +kernel
theorem dX10_gives_216 : decode cX10_gives 216 = .ok (.iload_n 3, 1) := by decide +kernel
theorem dX10_gives_217 : decode cX10_gives 217 = .ok (.iconst 1, 1) := by decide +kernel
theorem dX10_gives_218 : decode cX10_gives 218 = .ok (.if_icmp .ne 8, 3) := by decide +kernel
theorem dX10_gives_221 : decode cX10_gives 221 = .ok (.iload 4, 2) := by decide +kernel
theorem dX10_gives_223 : decode cX10_gives 223 = .ok (.goto 9, 3) := by decide +kernel
theorem dX10_gives_226 : decode cX10_gives 226 = .ok (.aload_n 0, 1) := by decide +kernel
theorem dX10_gives_227 : decode cX10_gives 227 = .ok (.getfield 41, 3) := by decide +kernel
theorem dX10_gives_230 : decode cX10_gives 230 = .ok (.iload_n 2, 1) := by decide +kernel
theorem dX10_gives_231 : decode cX10_gives 231 = .ok (.iaload, 1) := by decide +kernel
theorem dX10_gives_232 : decode cX10_gives 232 = .ok (.istore 6, 2) := by decide +kernel
theorem dX10_gives_234 : decode cX10_gives 234 = .ok (.aload_n 0, 1) := by decide +kernel
theorem dX10_gives_235 : decode cX10_gives 235 = .ok (.iload 6, 2) := by decide +kernel
theorem dX10_gives_237 : decode cX10_gives 237 = .ok (.iload 5, 2) := by decide +kernel
theorem dX10_gives_239 : decode cX10_gives 239 = .ok (.isub, 1) := by decide +kernel
theorem dX10_gives_240 : decode cX10_gives 240 = .ok (.invokevirtual 221, 3) := by decide +kernel
theorem dX10_gives_243 : decode cX10_gives 243 = .ok (.ifCond .ne 5, 3) := by decide +kernel
theorem dX10_gives_246 : decode cX10_gives 246 = .ok (.iconst 4, 1) := by decide +kernel
theorem dX10_gives_247 : decode cX10_gives 247 = .ok (.ireturn, 1) := by decide +kernel
theorem dX10_gives_248 : decode cX10_gives 248 = .ok (.iload 5, 2) := by decide +kernel
theorem dX10_gives_250 : decode cX10_gives 250 = .ok (.istore 7, 2) := by decide +kernel
theorem dX10_gives_252 : decode cX10_gives 252 = .ok (.iload 7, 2) := by decide +kernel
theorem dX10_gives_254 : decode cX10_gives 254 = .ok (.iload 6, 2) := by decide +kernel
theorem dX10_gives_256 : decode cX10_gives 256 = .ok (.if_icmp .ge 20, 3) := by decide +kernel
theorem dX10_gives_259 : decode cX10_gives 259 = .ok (.aload_n 0, 1) := by decide +kernel
theorem dX10_gives_260 : decode cX10_gives 260 = .ok (.aload_n 0, 1) := by decide +kernel
theorem dX10_gives_261 : decode cX10_gives 261 = .ok (.getfield 29, 3) := by decide +kernel
theorem dX10_gives_264 : decode cX10_gives 264 = .ok (.iload 7, 2) := by decide +kernel
theorem dX10_gives_266 : decode cX10_gives 266 = .ok (.iaload, 1) := by decide +kernel
theorem dX10_gives_267 : decode cX10_gives 267 = .ok (.invokevirtual 218, 3) := by decide +kernel
theorem dX10_gives_270 : decode cX10_gives 270 = .ok (.iinc 7 1, 3) := by decide +kernel
theorem dX10_gives_273 : decode cX10_gives 273 = .ok (.goto (-21), 3) := by decide +kernel
theorem dX10_gives_276 : decode cX10_gives 276 = .ok (.iconst 0, 1) := by decide +kernel
theorem dX10_gives_277 : decode cX10_gives 277 = .ok (.ireturn, 1) := by decide +kernel
theorem dX10_makes_0 : decode cX10_makes 0 = .ok (.aload_n 0, 1) := by decide +kernel
theorem dX10_makes_1 : decode cX10_makes 1 = .ok (.iconst 0, 1) := by decide +kernel
theorem dX10_makes_2 : decode cX10_makes 2 = .ok (.putfield 215, 3) := by decide +kernel
theorem dX10_makes_5 : decode cX10_makes 5 = .ok (.iconst 0, 1) := by decide +kernel
theorem dX10_makes_6 : decode cX10_makes 6 = .ok (.istore_n 2, 1) := by decide +kernel
theorem dX10_makes_7 : decode cX10_makes 7 = .ok (.iload_n 2, 1) := by decide +kernel
theorem dX10_makes_8 : decode cX10_makes 8 = .ok (.aload_n 0, 1) := by decide +kernel
theorem dX10_makes_9 : decode cX10_makes 9 = .ok (.getfield 162, 3) := by decide +kernel
theorem dX10_makes_12 : decode cX10_makes 12 = .ok (.if_icmp .ge 104, 3) := by decide +kernel
theorem dX10_makes_15 : decode cX10_makes 15 = .ok (.aload_n 0, 1) := by decide +kernel
theorem dX10_makes_16 : decode cX10_makes 16 = .ok (.getfield 32, 3) := by decide +kernel
theorem dX10_makes_19 : decode cX10_makes 19 = .ok (.iload_n 2, 1) := by decide +kernel
theorem dX10_makes_20 : decode cX10_makes 20 = .ok (.iaload, 1) := by decide +kernel
theorem dX10_makes_21 : decode cX10_makes 21 = .ok (.iconst 5, 1) := by decide +kernel
theorem dX10_makes_22 : decode cX10_makes 22 = .ok (.if_icmp .ne 70, 3) := by decide +kernel
theorem dX10_makes_25 : decode cX10_makes 25 = .ok (.iconst 1, 1) := by decide +kernel
theorem dX10_makes_26 : decode cX10_makes 26 = .ok (.istore_n 3, 1) := by decide +kernel
theorem dX10_makes_27 : decode cX10_makes 27 = .ok (.aload_n 0, 1) := by decide +kernel
theorem dX10_makes_28 : decode cX10_makes 28 = .ok (.getfield 38, 3) := by decide +kernel
theorem dX10_makes_31 : decode cX10_makes 31 = .ok (.iload_n 2, 1) := by decide +kernel
theorem dX10_makes_32 : decode cX10_makes 32 = .ok (.iaload, 1) := by decide +kernel
theorem dX10_makes_33 : decode cX10_makes 33 = .ok (.istore 4, 2) := by decide +kernel
theorem dX10_makes_35 : decode cX10_makes 35 = .ok (.iload 4, 2) := by decide +kernel
theorem dX10_makes_37 : decode cX10_makes 37 = .ok (.aload_n 0, 1) := by decide +kernel
theorem dX10_makes_38 : decode cX10_makes 38 = .ok (.getfield 41, 3) := by decide +kernel
theorem dX10_makes_41 : decode cX10_makes 41 = .ok (.iload_n 2, 1) := by decide +kernel
theorem dX10_makes_42 : decode cX10_makes 42 = .ok (.iaload, 1) := by decide +kernel
theorem dX10_makes_43 : decode cX10_makes 43 = .ok (.if_icmp .ge 29, 3) := by decide +kernel
theorem dX10_makes_46 : decode cX10_makes 46 = .ok (.iload_n 3, 1) := by decide +kernel
theorem dX10_makes_47 : decode cX10_makes 47 = .ok (.ifCond .eq 17, 3) := by decide +kernel
theorem dX10_makes_50 : decode cX10_makes 50 = .ok (.aload_n 0, 1) := by decide +kernel
theorem dX10_makes_51 : decode cX10_makes 51 = .ok (.iload_n 1, 1) := by decide +kernel
theorem dX10_makes_52 : decode cX10_makes 52 = .ok (.iload 4, 2) := by decide +kernel
theorem dX10_makes_54 : decode cX10_makes 54 = .ok (.invokevirtual 208, 3) := by decide +kernel
theorem dX10_makes_57 : decode cX10_makes 57 = .ok (.ifCond .eq 7, 3) := by decide +kernel
theorem dX10_makes_60 : decode cX10_makes 60 = .ok (.iconst 1, 1) := by decide +kernel
theorem dX10_makes_61 : decode cX10_makes 61 = .ok (.goto 4, 3) := by decide +kernel
theorem dX10_makes_64 : decode cX10_makes 64 = .ok (.iconst 0, 1) := by decide +kernel
theorem dX10_makes_65 : decode cX10_makes 65 = .ok (.istore_n 3, 1) := by decide +kernel
theorem dX10_makes_66 : decode cX10_makes 66 = .ok (.iinc 4 1, 3) := by decide +kernel
theorem dX10_makes_69 : decode cX10_makes 69 = .ok (.goto (-34), 3) := by decide +kernel
theorem dX10_makes_72 : decode cX10_makes 72 = .ok (.iload_n 3, 1) := by decide +kernel
theorem dX10_makes_73 : decode cX10_makes 73 = .ok (.ifCond .eq 9, 3) := by decide +kernel
theorem dX10_makes_76 : decode cX10_makes 76 = .ok (.iload_n 2, 1) := by decide +kernel
theorem dX10_makes_77 : decode cX10_makes 77 = .ok (.iconst 1, 1) := by decide +kernel
theorem dX10_makes_78 : decode cX10_makes 78 = .ok (.iadd, 1) := by decide +kernel
theorem dX10_makes_79 : decode cX10_makes 79 = .ok (.goto 9, 3) := by decide +kernel
theorem dX10_makes_82 : decode cX10_makes 82 = .ok (.aload_n 0, 1) := by decide +kernel
theorem dX10_makes_83 : decode cX10_makes 83 = .ok (.getfield 44, 3) := by decide +kernel
theorem dX10_makes_86 : decode cX10_makes 86 = .ok (.iload_n 2, 1) := by decide +kernel
theorem dX10_makes_87 : decode cX10_makes 87 = .ok (.iaload, 1) := by decide +kernel
theorem dX10_makes_88 : decode cX10_makes 88 = .ok (.istore_n 2, 1) := by decide +kernel
theorem dX10_makes_89 : decode cX10_makes 89 = .ok (.goto (-82), 3) := by decide +kernel
theorem dX10_makes_92 : decode cX10_makes 92 = .ok (.aload_n 0, 1) := by decide +kernel
theorem dX10_makes_93 : decode cX10_makes 93 = .ok (.iload_n 1, 1) := by decide +kernel
theorem dX10_makes_94 : decode cX10_makes 94 = .ok (.iload_n 2, 1) := by decide +kernel
theorem dX10_makes_95 : decode cX10_makes 95 = .ok (.invokevirtual 234, 3) := by decide +kernel
theorem dX10_makes_98 : decode cX10_makes 98 = .ok (.istore_n 3, 1) := by decide +kernel
theorem dX10_makes_99 : decode cX10_makes 99 = .ok (.iload_n 3, 1) := by decide +kernel
theorem dX10_makes_100 : decode cX10_makes 100 = .ok (.ifCond .eq 10, 3) := by decide +kernel
theorem dX10_makes_103 : decode cX10_makes 103 = .ok (.aload_n 0, 1) := by decide +kernel
theorem dX10_makes_104 : decode cX10_makes 104 = .ok (.iload_n 2, 1) := by decide +kernel
theorem dX10_makes_105 : decode cX10_makes 105 = .ok (.putfield 237, 3) := by decide +kernel
theorem dX10_makes_108 : decode cX10_makes 108 = .ok (.iload_n 3, 1) := by decide +kernel
theorem dX10_makes_109 : decode cX10_makes 109 = .ok (.ireturn, 1) := by decide +kernel
theorem dX10_makes_110 : decode cX10_makes 110 = .ok (.iinc 2 1, 3) := by decide +kernel
theorem dX10_makes_113 : decode cX10_makes 113 = .ok (.goto (-106), 3) := by decide +kernel
theorem dX10_makes_116 : decode cX10_makes 116 = .ok (.iconst 0, 1) := by decide +kernel
theorem dX10_makes_117 : decode cX10_makes 117 = .ok (.ireturn, 1) := by decide +kernel
theorem dX10_isSame_0 : decode cX10_isSame 0 = .ok (.aload_n 0, 1) := by decide +kernel
theorem dX10_isSame_1 : decode cX10_isSame 1 = .ok (.iload_n 1, 1) := by decide +kernel
theorem dX10_isSame_2 : decode cX10_isSame 2 = .ok (.iload_n 3, 1) := by decide +kernel
theorem dX10_isSame_3 : decode cX10_isSame 3 = .ok (.invokevirtual 109, 3) := by decide +kernel
theorem dX10_isSame_6 : decode cX10_isSame 6 = .ok (.aload_n 0, 1) := by decide +kernel
theorem dX10_isSame_7 : decode cX10_isSame 7 = .ok (.iload_n 2, 1) := by decide +kernel
theorem dX10_isSame_8 : decode cX10_isSame 8 = .ok (.iload_n 3, 1) := by decide +kernel
theorem dX10_isSame_9 : decode cX10_isSame 9 = .ok (.invokevirtual 109, 3) := by decide +kernel
theorem dX10_isSame_12 : decode cX10_isSame 12 = .ok (.if_icmp .ne 7, 3) := by decide +kernel
theorem dX10_isSame_15 : decode cX10_isSame 15 = .ok (.iconst 1, 1) := by decide +kernel
theorem dX10_isSame_16 : decode cX10_isSame 16 = .ok (.goto 4, 3) := by decide +kernel
theorem dX10_isSame_19 : decode cX10_isSame 19 = .ok (.iconst 0, 1) := by decide +kernel
theorem dX10_isSame_20 : decode cX10_isSame 20 = .ok (.istore 4, 2) := by decide +kernel
theorem dX10_isSame_22 : decode cX10_isSame 22 = .ok (.iconst 0, 1) := by decide +kernel
theorem dX10_isSame_23 : decode cX10_isSame 23 = .ok (.istore 5, 2) := by decide +kernel
theorem dX10_isSame_25 : decode cX10_isSame 25 = .ok (.iload 5, 2) := by decide +kernel
theorem dX10_isSame_27 : decode cX10_isSame 27 = .ok (.aload_n 0, 1) := by decide +kernel
theorem dX10_isSame_28 : decode cX10_isSame 28 = .ok (.iload_n 1, 1) := by decide +kernel
theorem dX10_isSame_29 : decode cX10_isSame 29 = .ok (.iload_n 3, 1) := by decide +kernel
theorem dX10_isSame_30 : decode cX10_isSame 30 = .ok (.invokevirtual 109, 3) := by decide +kernel
theorem dX10_isSame_33 : decode cX10_isSame 33 = .ok (.if_icmp .ge 46, 3) := by decide +kernel
theorem dX10_isSame_36 : decode cX10_isSame 36 = .ok (.iload 4, 2) := by decide +kernel
theorem dX10_isSame_38 : decode cX10_isSame 38 = .ok (.ifCond .eq 41, 3) := by decide +kernel
theorem dX10_isSame_41 : decode cX10_isSame 41 = .ok (.aload_n 0, 1) := by decide +kernel
theorem dX10_isSame_42 : decode cX10_isSame 42 = .ok (.iload_n 1, 1) := by decide +kernel
theorem dX10_isSame_43 : decode cX10_isSame 43 = .ok (.iload_n 3, 1) := by decide +kernel
theorem dX10_isSame_44 : decode cX10_isSame 44 = .ok (.iload 5, 2) := by decide +kernel
theorem dX10_isSame_46 : decode cX10_isSame 46 = .ok (.invokevirtual 113, 3) := by decide +kernel
theorem dX10_isSame_49 : decode cX10_isSame 49 = .ok (.invokestatic 131, 3) := by decide +kernel
theorem dX10_isSame_52 : decode cX10_isSame 52 = .ok (.aload_n 0, 1) := by decide +kernel
theorem dX10_isSame_53 : decode cX10_isSame 53 = .ok (.iload_n 2, 1) := by decide +kernel
theorem dX10_isSame_54 : decode cX10_isSame 54 = .ok (.iload_n 3, 1) := by decide +kernel
theorem dX10_isSame_55 : decode cX10_isSame 55 = .ok (.iload 5, 2) := by decide +kernel
theorem dX10_isSame_57 : decode cX10_isSame 57 = .ok (.invokevirtual 113, 3) := by decide +kernel
theorem dX10_isSame_60 : decode cX10_isSame 60 = .ok (.invokestatic 131, 3) := by decide +kernel
theorem dX10_isSame_63 : decode cX10_isSame 63 = .ok (.if_icmp .ne 7, 3) := by decide +kernel
theorem dX10_isSame_66 : decode cX10_isSame 66 = .ok (.iconst 1, 1) := by decide +kernel
theorem dX10_isSame_67 : decode cX10_isSame 67 = .ok (.goto 4, 3) := by decide +kernel
theorem dX10_isSame_70 : decode cX10_isSame 70 = .ok (.iconst 0, 1) := by decide +kernel
theorem dX10_isSame_71 : decode cX10_isSame 71 = .ok (.istore 4, 2) := by decide +kernel
theorem dX10_isSame_73 : decode cX10_isSame 73 = .ok (.iinc 5 1, 3) := by decide +kernel
theorem dX10_isSame_76 : decode cX10_isSame 76 = .ok (.goto (-51), 3) := by decide +kernel
theorem dX10_isSame_79 : decode cX10_isSame 79 = .ok (.iload 4, 2) := by decide +kernel
theorem dX10_isSame_81 : decode cX10_isSame 81 = .ok (.ireturn, 1) := by decide +kernel
theorem dX10_areLike_0 : decode cX10_areLike 0 = .ok (.aload_n 0, 1) := by decide +kernel
theorem dX10_areLike_1 : decode cX10_areLike 1 = .ok (.getfield 9, 3) := by decide +kernel
theorem dX10_areLike_4 : decode cX10_areLike 4 = .ok (.iconst 1, 1) := by decide +kernel
theorem dX10_areLike_5 : decode cX10_areLike 5 = .ok (.iaload, 1) := by decide +kernel
theorem dX10_areLike_6 : decode cX10_areLike 6 = .ok (.ifCond .ne 8, 3) := by decide +kernel
theorem dX10_areLike_9 : decode cX10_areLike 9 = .ok (.iload_n 1, 1) := by decide +kernel
theorem dX10_areLike_10 : decode cX10_areLike 10 = .ok (.iload_n 2, 1) := by decide +kernel
theorem dX10_areLike_11 : decode cX10_areLike 11 = .ok (.if_icmp .ne 7, 3) := by decide +kernel
theorem dX10_areLike_14 : decode cX10_areLike 14 = .ok (.iconst 1, 1) := by decide +kernel
theorem dX10_areLike_15 : decode cX10_areLike 15 = .ok (.goto 4, 3) := by decide +kernel
theorem dX10_areLike_18 : decode cX10_areLike 18 = .ok (.iconst 0, 1) := by decide +kernel
theorem dX10_areLike_19 : decode cX10_areLike 19 = .ok (.istore_n 3, 1) := by decide +kernel
theorem dX10_areLike_20 : decode cX10_areLike 20 = .ok (.iconst 0, 1) := by decide +kernel
theorem dX10_areLike_21 : decode cX10_areLike 21 = .ok (.istore 4, 2) := by decide +kernel
theorem dX10_areLike_23 : decode cX10_areLike 23 = .ok (.iload 4, 2) := by decide +kernel
theorem dX10_areLike_25 : decode cX10_areLike 25 = .ok (.iconst 5, 1) := by decide +kernel
theorem dX10_areLike_26 : decode cX10_areLike 26 = .ok (.if_icmp .ge 44, 3) := by decide +kernel
theorem dX10_areLike_29 : decode cX10_areLike 29 = .ok (.iload_n 3, 1) := by decide +kernel
theorem dX10_areLike_30 : decode cX10_areLike 30 = .ok (.ifCond .eq 32, 3) := by decide +kernel
theorem dX10_areLike_33 : decode cX10_areLike 33 = .ok (.aload_n 0, 1) := by decide +kernel
theorem dX10_areLike_34 : decode cX10_areLike 34 = .ok (.getfield 9, 3) := by decide +kernel
theorem dX10_areLike_37 : decode cX10_areLike 37 = .ok (.iconst 1, 1) := by decide +kernel
theorem dX10_areLike_38 : decode cX10_areLike 38 = .ok (.iaload, 1) := by decide +kernel
theorem dX10_areLike_39 : decode cX10_areLike 39 = .ok (.iload 4, 2) := by decide +kernel
theorem dX10_areLike_41 : decode cX10_areLike 41 = .ok (.ishr, 1) := by decide +kernel
theorem dX10_areLike_42 : decode cX10_areLike 42 = .ok (.iconst 1, 1) := by decide +kernel
theorem dX10_areLike_43 : decode cX10_areLike 43 = .ok (.iand, 1) := by decide +kernel
theorem dX10_areLike_44 : decode cX10_areLike 44 = .ok (.ifCond .eq 14, 3) := by decide +kernel
theorem dX10_areLike_47 : decode cX10_areLike 47 = .ok (.aload_n 0, 1) := by decide +kernel
theorem dX10_areLike_48 : decode cX10_areLike 48 = .ok (.iload_n 1, 1) := by decide +kernel
theorem dX10_areLike_49 : decode cX10_areLike 49 = .ok (.iload_n 2, 1) := by decide +kernel
theorem dX10_areLike_50 : decode cX10_areLike 50 = .ok (.iload 4, 2) := by decide +kernel
theorem dX10_areLike_52 : decode cX10_areLike 52 = .ok (.invokevirtual 240, 3) := by decide +kernel
theorem dX10_areLike_55 : decode cX10_areLike 55 = .ok (.ifCond .eq 7, 3) := by decide +kernel
theorem dX10_areLike_58 : decode cX10_areLike 58 = .ok (.iconst 1, 1) := by decide +kernel
theorem dX10_areLike_59 : decode cX10_areLike 59 = .ok (.goto 4, 3) := by decide +kernel
theorem dX10_areLike_62 : decode cX10_areLike 62 = .ok (.iconst 0, 1) := by decide +kernel
theorem dX10_areLike_63 : decode cX10_areLike 63 = .ok (.istore_n 3, 1) := by decide +kernel
theorem dX10_areLike_64 : decode cX10_areLike 64 = .ok (.iinc 4 1, 3) := by decide +kernel
theorem dX10_areLike_67 : decode cX10_areLike 67 = .ok (.goto (-44), 3) := by decide +kernel
theorem dX10_areLike_70 : decode cX10_areLike 70 = .ok (.iload_n 3, 1) := by decide +kernel
theorem dX10_areLike_71 : decode cX10_areLike 71 = .ok (.ireturn, 1) := by decide +kernel
theorem dX10_keptOf_0 : decode cX10_keptOf 0 = .ok (.iconst (-1), 1) := by decide +kernel
theorem dX10_keptOf_1 : decode cX10_keptOf 1 = .ok (.istore 4, 2) := by decide +kernel
theorem dX10_keptOf_3 : decode cX10_keptOf 3 = .ok (.iconst 0, 1) := by decide +kernel
theorem dX10_keptOf_4 : decode cX10_keptOf 4 = .ok (.istore 5, 2) := by decide +kernel
theorem dX10_keptOf_6 : decode cX10_keptOf 6 = .ok (.iload 5, 2) := by decide +kernel
theorem dX10_keptOf_8 : decode cX10_keptOf 8 = .ok (.aload_n 0, 1) := by decide +kernel
theorem dX10_keptOf_9 : decode cX10_keptOf 9 = .ok (.getfield 9, 3) := by decide +kernel
theorem dX10_keptOf_12 : decode cX10_keptOf 12 = .ok (.iconst 0, 1) := by decide +kernel
theorem dX10_keptOf_13 : decode cX10_keptOf 13 = .ok (.iaload, 1) := by decide +kernel
theorem dX10_keptOf_14 : decode cX10_keptOf 14 = .ok (.if_icmp .ge 87, 3) := by decide +kernel
theorem dX10_keptOf_17 : decode cX10_keptOf 17 = .ok (.iload_n 3, 1) := by decide +kernel
theorem dX10_keptOf_18 : decode cX10_keptOf 18 = .ok (.ifCond .eq 17, 3) := by decide +kernel
theorem dX10_keptOf_21 : decode cX10_keptOf 21 = .ok (.aload_n 0, 1) := by decide +kernel
theorem dX10_keptOf_22 : decode cX10_keptOf 22 = .ok (.getfield 9, 3) := by decide +kernel
theorem dX10_keptOf_25 : decode cX10_keptOf 25 = .ok (.iconst 0, 1) := by decide +kernel
theorem dX10_keptOf_26 : decode cX10_keptOf 26 = .ok (.iaload, 1) := by decide +kernel
theorem dX10_keptOf_27 : decode cX10_keptOf 27 = .ok (.iconst 1, 1) := by decide +kernel
theorem dX10_keptOf_28 : decode cX10_keptOf 28 = .ok (.isub, 1) := by decide +kernel
theorem dX10_keptOf_29 : decode cX10_keptOf 29 = .ok (.iload 5, 2) := by decide +kernel
theorem dX10_keptOf_31 : decode cX10_keptOf 31 = .ok (.isub, 1) := by decide +kernel
theorem dX10_keptOf_32 : decode cX10_keptOf 32 = .ok (.goto 5, 3) := by decide +kernel
theorem dX10_keptOf_35 : decode cX10_keptOf 35 = .ok (.iload 5, 2) := by decide +kernel
theorem dX10_keptOf_37 : decode cX10_keptOf 37 = .ok (.istore 6, 2) := by decide +kernel
theorem dX10_keptOf_39 : decode cX10_keptOf 39 = .ok (.aload_n 0, 1) := by decide +kernel
theorem dX10_keptOf_40 : decode cX10_keptOf 40 = .ok (.iload 6, 2) := by decide +kernel
theorem dX10_keptOf_42 : decode cX10_keptOf 42 = .ok (.invokevirtual 243, 3) := by decide +kernel
theorem dX10_keptOf_45 : decode cX10_keptOf 45 = .ok (.ifCond .ne 50, 3) := by decide +kernel
theorem dX10_keptOf_48 : decode cX10_keptOf 48 = .ok (.aload_n 0, 1) := by decide +kernel
theorem dX10_keptOf_49 : decode cX10_keptOf 49 = .ok (.iload_n 1, 1) := by decide +kernel
theorem dX10_keptOf_50 : decode cX10_keptOf 50 = .ok (.iload 6, 2) := by decide +kernel
theorem dX10_keptOf_52 : decode cX10_keptOf 52 = .ok (.invokevirtual 246, 3) := by decide +kernel
theorem dX10_keptOf_55 : decode cX10_keptOf 55 = .ok (.ifCond .ne 6, 3) := by decide +kernel
theorem dX10_keptOf_58 : decode cX10_keptOf 58 = .ok (.goto 37, 3) := by decide +kernel
theorem dX10_keptOf_61 : decode cX10_keptOf 61 = .ok (.iload 4, 2) := by decide +kernel
theorem dX10_keptOf_63 : decode cX10_keptOf 63 = .ok (.ifCond .lt 28, 3) := by decide +kernel
theorem dX10_keptOf_66 : decode cX10_keptOf 66 = .ok (.iload_n 2, 1) := by decide +kernel
theorem dX10_keptOf_67 : decode cX10_keptOf 67 = .ok (.iconst 1, 1) := by decide +kernel
theorem dX10_keptOf_68 : decode cX10_keptOf 68 = .ok (.if_icmp .eq 23, 3) := by decide +kernel
theorem dX10_keptOf_71 : decode cX10_keptOf 71 = .ok (.iload_n 2, 1) := by decide +kernel
theorem dX10_keptOf_72 : decode cX10_keptOf 72 = .ok (.iconst 2, 1) := by decide +kernel
theorem dX10_keptOf_73 : decode cX10_keptOf 73 = .ok (.if_icmp .ne 22, 3) := by decide +kernel
theorem dX10_keptOf_76 : decode cX10_keptOf 76 = .ok (.aload_n 0, 1) := by decide +kernel
theorem dX10_keptOf_77 : decode cX10_keptOf 77 = .ok (.iload 6, 2) := by decide +kernel
theorem dX10_keptOf_79 : decode cX10_keptOf 79 = .ok (.invokevirtual 141, 3) := by decide +kernel
theorem dX10_keptOf_82 : decode cX10_keptOf 82 = .ok (.aload_n 0, 1) := by decide +kernel
theorem dX10_keptOf_83 : decode cX10_keptOf 83 = .ok (.iload 4, 2) := by decide +kernel
theorem dX10_keptOf_85 : decode cX10_keptOf 85 = .ok (.invokevirtual 141, 3) := by decide +kernel
theorem dX10_keptOf_88 : decode cX10_keptOf 88 = .ok (.if_icmp .le 7, 3) := by decide +kernel
theorem dX10_keptOf_91 : decode cX10_keptOf 91 = .ok (.iload 6, 2) := by decide +kernel
theorem dX10_keptOf_93 : decode cX10_keptOf 93 = .ok (.istore 4, 2) := by decide +kernel
theorem dX10_keptOf_95 : decode cX10_keptOf 95 = .ok (.iinc 5 1, 3) := by decide +kernel
theorem dX10_keptOf_98 : decode cX10_keptOf 98 = .ok (.goto (-92), 3) := by decide +kernel
theorem dX10_keptOf_101 : decode cX10_keptOf 101 = .ok (.iload 4, 2) := by decide +kernel
theorem dX10_keptOf_103 : decode cX10_keptOf 103 = .ok (.ireturn, 1) := by decide +kernel
theorem dX10_reasonOf_0 : decode cX10_reasonOf 0 = .ok (.aload_n 0, 1) := by decide +kernel
theorem dX10_reasonOf_1 : decode cX10_reasonOf 1 = .ok (.iload_n 1, 1) := by decide +kernel
theorem dX10_reasonOf_2 : decode cX10_reasonOf 2 = .ok (.invokevirtual 243, 3) := by decide +kernel
theorem dX10_reasonOf_5 : decode cX10_reasonOf 5 = .ok (.ifCond .eq 7, 3) := by decide +kernel
theorem dX10_reasonOf_8 : decode cX10_reasonOf 8 = .ok (.iconst 1, 1) := by decide +kernel
theorem dX10_reasonOf_9 : decode cX10_reasonOf 9 = .ok (.goto 23, 3) := by decide +kernel
theorem dX10_reasonOf_12 : decode cX10_reasonOf 12 = .ok (.aload_n 0, 1) := by decide +kernel
theorem dX10_reasonOf_13 : decode cX10_reasonOf 13 = .ok (.iload_n 1, 1) := by decide +kernel
theorem dX10_reasonOf_14 : decode cX10_reasonOf 14 = .ok (.iload_n 2, 1) := by decide +kernel
theorem dX10_reasonOf_15 : decode cX10_reasonOf 15 = .ok (.iload_n 3, 1) := by decide +kernel
theorem dX10_reasonOf_16 : decode cX10_reasonOf 16 = .ok (.invokevirtual 249, 3) := by decide +kernel
theorem dX10_reasonOf_19 : decode cX10_reasonOf 19 = .ok (.iload_n 1, 1) := by decide +kernel
theorem dX10_reasonOf_20 : decode cX10_reasonOf 20 = .ok (.if_icmp .eq 7, 3) := by decide +kernel
theorem dX10_reasonOf_23 : decode cX10_reasonOf 23 = .ok (.iconst 2, 1) := by decide +kernel
theorem dX10_reasonOf_24 : decode cX10_reasonOf 24 = .ok (.goto 8, 3) := by decide +kernel
theorem dX10_reasonOf_27 : decode cX10_reasonOf 27 = .ok (.aload_n 0, 1) := by decide +kernel
theorem dX10_reasonOf_28 : decode cX10_reasonOf 28 = .ok (.iload_n 1, 1) := by decide +kernel
theorem dX10_reasonOf_29 : decode cX10_reasonOf 29 = .ok (.invokevirtual 253, 3) := by decide +kernel
theorem dX10_reasonOf_32 : decode cX10_reasonOf 32 = .ok (.ireturn, 1) := by decide +kernel
theorem dX10_kept_0 : decode cX10_kept 0 = .ok (.aload_n 0, 1) := by decide +kernel
theorem dX10_kept_1 : decode cX10_kept 1 = .ok (.aload_n 0, 1) := by decide +kernel
theorem dX10_kept_2 : decode cX10_kept 2 = .ok (.iload_n 1, 1) := by decide +kernel
theorem dX10_kept_3 : decode cX10_kept 3 = .ok (.invokevirtual 102, 3) := by decide +kernel
theorem dX10_kept_6 : decode cX10_kept 6 = .ok (.ifCond .ne 7, 3) := by decide +kernel
theorem dX10_kept_9 : decode cX10_kept 9 = .ok (.iconst 1, 1) := by decide +kernel
theorem dX10_kept_10 : decode cX10_kept 10 = .ok (.goto 16, 3) := by decide +kernel
theorem dX10_kept_13 : decode cX10_kept 13 = .ok (.aload_n 0, 1) := by decide +kernel
theorem dX10_kept_14 : decode cX10_kept 14 = .ok (.iload_n 1, 1) := by decide +kernel
theorem dX10_kept_15 : decode cX10_kept 15 = .ok (.invokevirtual 243, 3) := by decide +kernel
theorem dX10_kept_18 : decode cX10_kept 18 = .ok (.ifCond .eq 7, 3) := by decide +kernel
theorem dX10_kept_21 : decode cX10_kept 21 = .ok (.iconst 2, 1) := by decide +kernel
theorem dX10_kept_22 : decode cX10_kept 22 = .ok (.goto 4, 3) := by decide +kernel
theorem dX10_kept_25 : decode cX10_kept 25 = .ok (.iconst 0, 1) := by decide +kernel
theorem dX10_kept_26 : decode cX10_kept 26 = .ok (.putfield 78, 3) := by decide +kernel
theorem dX10_kept_29 : decode cX10_kept 29 = .ok (.aload_n 0, 1) := by decide +kernel
theorem dX10_kept_30 : decode cX10_kept 30 = .ok (.getfield 78, 3) := by decide +kernel
theorem dX10_kept_33 : decode cX10_kept 33 = .ok (.ifCond .ne 18, 3) := by decide +kernel
theorem dX10_kept_36 : decode cX10_kept 36 = .ok (.aload_n 0, 1) := by decide +kernel
theorem dX10_kept_37 : decode cX10_kept 37 = .ok (.iload_n 1, 1) := by decide +kernel
theorem dX10_kept_38 : decode cX10_kept 38 = .ok (.aload_n 0, 1) := by decide +kernel
theorem dX10_kept_39 : decode cX10_kept 39 = .ok (.getfield 9, 3) := by decide +kernel
theorem dX10_kept_42 : decode cX10_kept 42 = .ok (.iconst 2, 1) := by decide +kernel
theorem dX10_kept_43 : decode cX10_kept 43 = .ok (.iaload, 1) := by decide +kernel
theorem dX10_kept_44 : decode cX10_kept 44 = .ok (.iconst 0, 1) := by decide +kernel
theorem dX10_kept_45 : decode cX10_kept 45 = .ok (.invokevirtual 249, 3) := by decide +kernel
theorem dX10_kept_48 : decode cX10_kept 48 = .ok (.goto 4, 3) := by decide +kernel
theorem dX10_kept_51 : decode cX10_kept 51 = .ok (.iconst 0, 1) := by decide +kernel
theorem dX10_kept_52 : decode cX10_kept 52 = .ok (.ireturn, 1) := by decide +kernel
theorem dX10_preview_0 : decode cX10_preview 0 = .ok (.aload_n 0, 1) := by decide +kernel
theorem dX10_preview_1 : decode cX10_preview 1 = .ok (.aload_n 0, 1) := by decide +kernel
theorem dX10_preview_2 : decode cX10_preview 2 = .ok (.iload_n 1, 1) := by decide +kernel
theorem dX10_preview_3 : decode cX10_preview 3 = .ok (.invokevirtual 102, 3) := by decide +kernel
theorem dX10_preview_6 : decode cX10_preview 6 = .ok (.ifCond .eq 7, 3) := by decide +kernel
theorem dX10_preview_9 : decode cX10_preview 9 = .ok (.iconst 0, 1) := by decide +kernel
theorem dX10_preview_10 : decode cX10_preview 10 = .ok (.goto 4, 3) := by decide +kernel
theorem dX10_preview_13 : decode cX10_preview 13 = .ok (.iconst 1, 1) := by decide +kernel
theorem dX10_preview_14 : decode cX10_preview 14 = .ok (.putfield 78, 3) := by decide +kernel
theorem dX10_preview_17 : decode cX10_preview 17 = .ok (.aload_n 0, 1) := by decide +kernel
theorem dX10_preview_18 : decode cX10_preview 18 = .ok (.getfield 78, 3) := by decide +kernel
theorem dX10_preview_21 : decode cX10_preview 21 = .ok (.ifCond .eq 5, 3) := by decide +kernel
theorem dX10_preview_24 : decode cX10_preview 24 = .ok (.iconst 0, 1) := by decide +kernel
theorem dX10_preview_25 : decode cX10_preview 25 = .ok (.ireturn, 1) := by decide +kernel
theorem dX10_preview_26 : decode cX10_preview 26 = .ok (.aload_n 0, 1) := by decide +kernel
theorem dX10_preview_27 : decode cX10_preview 27 = .ok (.invokevirtual 199, 3) := by decide +kernel
theorem dX10_preview_30 : decode cX10_preview 30 = .ok (.aload_n 0, 1) := by decide +kernel
theorem dX10_preview_31 : decode cX10_preview 31 = .ok (.iload_n 1, 1) := by decide +kernel
theorem dX10_preview_32 : decode cX10_preview 32 = .ok (.invokevirtual 253, 3) := by decide +kernel
theorem dX10_preview_35 : decode cX10_preview 35 = .ok (.istore_n 2, 1) := by decide +kernel
theorem dX10_preview_36 : decode cX10_preview 36 = .ok (.iload_n 2, 1) := by decide +kernel
theorem dX10_preview_37 : decode cX10_preview 37 = .ok (.ifCond .ne 10, 3) := by decide +kernel
theorem dX10_preview_40 : decode cX10_preview 40 = .ok (.aload_n 0, 1) := by decide +kernel
theorem dX10_preview_41 : decode cX10_preview 41 = .ok (.getfield 215, 3) := by decide +kernel
theorem dX10_preview_44 : decode cX10_preview 44 = .ok (.goto 5, 3) := by decide +kernel
theorem dX10_preview_47 : decode cX10_preview 47 = .ok (.iload_n 2, 1) := by decide +kernel
theorem dX10_preview_48 : decode cX10_preview 48 = .ok (.ineg, 1) := by decide +kernel
theorem dX10_preview_49 : decode cX10_preview 49 = .ok (.ireturn, 1) := by decide +kernel
theorem dX10_isOrderFree_0 : decode cX10_isOrderFree 0 = .ok (.aload_n 0, 1) := by decide +kernel
theorem dX10_isOrderFree_1 : decode cX10_isOrderFree 1 = .ok (.iconst 0, 1) := by decide +kernel
theorem dX10_isOrderFree_2 : decode cX10_isOrderFree 2 = .ok (.putfield 78, 3) := by decide +kernel
theorem dX10_isOrderFree_5 : decode cX10_isOrderFree 5 = .ok (.aload_n 0, 1) := by decide +kernel
theorem dX10_isOrderFree_6 : decode cX10_isOrderFree 6 = .ok (.invokevirtual 199, 3) := by decide +kernel
theorem dX10_isOrderFree_9 : decode cX10_isOrderFree 9 = .ok (.aload_n 0, 1) := by decide +kernel
theorem dX10_isOrderFree_10 : decode cX10_isOrderFree 10 = .ok (.getfield 9, 3) := by decide +kernel
theorem dX10_isOrderFree_13 : decode cX10_isOrderFree 13 = .ok (.iconst 2, 1) := by decide +kernel
theorem dX10_isOrderFree_14 : decode cX10_isOrderFree 14 = .ok (.iaload, 1) := by decide +kernel
theorem dX10_isOrderFree_15 : decode cX10_isOrderFree 15 = .ok (.iconst 2, 1) := by decide +kernel
theorem dX10_isOrderFree_16 : decode cX10_isOrderFree 16 = .ok (.if_icmp .ne 7, 3) := by decide +kernel
theorem dX10_isOrderFree_19 : decode cX10_isOrderFree 19 = .ok (.iconst 2, 1) := by decide +kernel
theorem dX10_isOrderFree_20 : decode cX10_isOrderFree 20 = .ok (.goto 11, 3) := by decide +kernel
theorem dX10_isOrderFree_23 : decode cX10_isOrderFree 23 = .ok (.iconst 1, 1) := by decide +kernel
theorem dX10_isOrderFree_24 : decode cX10_isOrderFree 24 = .ok (.aload_n 0, 1) := by decide +kernel
theorem dX10_isOrderFree_25 : decode cX10_isOrderFree 25 = .ok (.getfield 9, 3) := by decide +kernel
theorem dX10_isOrderFree_28 : decode cX10_isOrderFree 28 = .ok (.iconst 2, 1) := by decide +kernel
theorem dX10_isOrderFree_29 : decode cX10_isOrderFree 29 = .ok (.iaload, 1) := by decide +kernel
theorem dX10_isOrderFree_30 : decode cX10_isOrderFree 30 = .ok (.isub, 1) := by decide +kernel
theorem dX10_isOrderFree_31 : decode cX10_isOrderFree 31 = .ok (.istore_n 1, 1) := by decide +kernel
theorem dX10_isOrderFree_32 : decode cX10_isOrderFree 32 = .ok (.iconst 1, 1) := by decide +kernel
theorem dX10_isOrderFree_33 : decode cX10_isOrderFree 33 = .ok (.istore_n 2, 1) := by decide +kernel
theorem dX10_isOrderFree_34 : decode cX10_isOrderFree 34 = .ok (.iconst 0, 1) := by decide +kernel
theorem dX10_isOrderFree_35 : decode cX10_isOrderFree 35 = .ok (.istore_n 3, 1) := by decide +kernel
theorem dX10_isOrderFree_36 : decode cX10_isOrderFree 36 = .ok (.iload_n 3, 1) := by decide +kernel
theorem dX10_isOrderFree_37 : decode cX10_isOrderFree 37 = .ok (.aload_n 0, 1) := by decide +kernel
theorem dX10_isOrderFree_38 : decode cX10_isOrderFree 38 = .ok (.getfield 9, 3) := by decide +kernel
theorem dX10_isOrderFree_41 : decode cX10_isOrderFree 41 = .ok (.iconst 0, 1) := by decide +kernel
theorem dX10_isOrderFree_42 : decode cX10_isOrderFree 42 = .ok (.iaload, 1) := by decide +kernel
theorem dX10_isOrderFree_43 : decode cX10_isOrderFree 43 = .ok (.if_icmp .ge 69, 3) := by decide +kernel
theorem dX10_isOrderFree_46 : decode cX10_isOrderFree 46 = .ok (.aload_n 0, 1) := by decide +kernel
theorem dX10_isOrderFree_47 : decode cX10_isOrderFree 47 = .ok (.iload_n 3, 1) := by decide +kernel
theorem dX10_isOrderFree_48 : decode cX10_isOrderFree 48 = .ok (.aload_n 0, 1) := by decide +kernel
theorem dX10_isOrderFree_49 : decode cX10_isOrderFree 49 = .ok (.getfield 9, 3) := by decide +kernel
theorem dX10_isOrderFree_52 : decode cX10_isOrderFree 52 = .ok (.iconst 2, 1) := by decide +kernel
theorem dX10_isOrderFree_53 : decode cX10_isOrderFree 53 = .ok (.iaload, 1) := by decide +kernel
theorem dX10_isOrderFree_54 : decode cX10_isOrderFree 54 = .ok (.iconst 0, 1) := by decide +kernel
theorem dX10_isOrderFree_55 : decode cX10_isOrderFree 55 = .ok (.invokevirtual 256, 3) := by decide +kernel
theorem dX10_isOrderFree_58 : decode cX10_isOrderFree 58 = .ok (.istore 4, 2) := by decide +kernel
theorem dX10_isOrderFree_60 : decode cX10_isOrderFree 60 = .ok (.aload_n 0, 1) := by decide +kernel
theorem dX10_isOrderFree_61 : decode cX10_isOrderFree 61 = .ok (.getfield 215, 3) := by decide +kernel
theorem dX10_isOrderFree_64 : decode cX10_isOrderFree 64 = .ok (.istore 5, 2) := by decide +kernel
theorem dX10_isOrderFree_66 : decode cX10_isOrderFree 66 = .ok (.aload_n 0, 1) := by decide +kernel
theorem dX10_isOrderFree_67 : decode cX10_isOrderFree 67 = .ok (.iload_n 3, 1) := by decide +kernel
theorem dX10_isOrderFree_68 : decode cX10_isOrderFree 68 = .ok (.iload_n 1, 1) := by decide +kernel
theorem dX10_isOrderFree_69 : decode cX10_isOrderFree 69 = .ok (.iconst 1, 1) := by decide +kernel
theorem dX10_isOrderFree_70 : decode cX10_isOrderFree 70 = .ok (.invokevirtual 256, 3) := by decide +kernel
theorem dX10_isOrderFree_73 : decode cX10_isOrderFree 73 = .ok (.istore 6, 2) := by decide +kernel
theorem dX10_isOrderFree_75 : decode cX10_isOrderFree 75 = .ok (.iload_n 2, 1) := by decide +kernel
theorem dX10_isOrderFree_76 : decode cX10_isOrderFree 76 = .ok (.ifCond .eq 28, 3) := by decide +kernel
theorem dX10_isOrderFree_79 : decode cX10_isOrderFree 79 = .ok (.iload 4, 2) := by decide +kernel
theorem dX10_isOrderFree_81 : decode cX10_isOrderFree 81 = .ok (.iload 6, 2) := by decide +kernel
theorem dX10_isOrderFree_83 : decode cX10_isOrderFree 83 = .ok (.if_icmp .ne 21, 3) := by decide +kernel
theorem dX10_isOrderFree_86 : decode cX10_isOrderFree 86 = .ok (.iload 4, 2) := by decide +kernel
theorem dX10_isOrderFree_88 : decode cX10_isOrderFree 88 = .ok (.ifCond .ne 12, 3) := by decide +kernel
theorem dX10_isOrderFree_91 : decode cX10_isOrderFree 91 = .ok (.iload 5, 2) := by decide +kernel
theorem dX10_isOrderFree_93 : decode cX10_isOrderFree 93 = .ok (.aload_n 0, 1) := by decide +kernel
theorem dX10_isOrderFree_94 : decode cX10_isOrderFree 94 = .ok (.getfield 215, 3) := by decide +kernel
theorem dX10_isOrderFree_97 : decode cX10_isOrderFree 97 = .ok (.if_icmp .ne 7, 3) := by decide +kernel
theorem dX10_isOrderFree_100 : decode cX10_isOrderFree 100 = .ok (.iconst 1, 1) := by decide +kernel
theorem dX10_isOrderFree_101 : decode cX10_isOrderFree 101 = .ok (.goto 4, 3) := by decide +kernel
theorem dX10_isOrderFree_104 : decode cX10_isOrderFree 104 = .ok (.iconst 0, 1) := by decide +kernel
theorem dX10_isOrderFree_105 : decode cX10_isOrderFree 105 = .ok (.istore_n 2, 1) := by decide +kernel
theorem dX10_isOrderFree_106 : decode cX10_isOrderFree 106 = .ok (.iinc 3 1, 3) := by decide +kernel
theorem dX10_isOrderFree_109 : decode cX10_isOrderFree 109 = .ok (.goto (-73), 3) := by decide +kernel
theorem dX10_isOrderFree_112 : decode cX10_isOrderFree 112 = .ok (.iload_n 2, 1) := by decide +kernel
theorem dX10_isOrderFree_113 : decode cX10_isOrderFree 113 = .ok (.ireturn, 1) := by decide +kernel
theorem dX10_keepsChain_0 : decode cX10_keepsChain 0 = .ok (.iconst 0, 1) := by decide +kernel
theorem dX10_keepsChain_1 : decode cX10_keepsChain 1 = .ok (.istore_n 2, 1) := by decide +kernel
theorem dX10_keepsChain_2 : decode cX10_keepsChain 2 = .ok (.iconst 0, 1) := by decide +kernel
theorem dX10_keepsChain_3 : decode cX10_keepsChain 3 = .ok (.istore_n 3, 1) := by decide +kernel
theorem dX10_keepsChain_4 : decode cX10_keepsChain 4 = .ok (.iload_n 3, 1) := by decide +kernel
theorem dX10_keepsChain_5 : decode cX10_keepsChain 5 = .ok (.aload_n 0, 1) := by decide +kernel
theorem dX10_keepsChain_6 : decode cX10_keepsChain 6 = .ok (.getfield 237, 3) := by decide +kernel
theorem dX10_keepsChain_9 : decode cX10_keepsChain 9 = .ok (.if_icmp .gt 62, 3) := by decide +kernel
theorem dX10_keepsChain_12 : decode cX10_keepsChain 12 = .ok (.iload_n 3, 1) := by decide +kernel
theorem dX10_keepsChain_13 : decode cX10_keepsChain 13 = .ok (.aload_n 0, 1) := by decide +kernel
theorem dX10_keepsChain_14 : decode cX10_keepsChain 14 = .ok (.getfield 237, 3) := by decide +kernel
theorem dX10_keepsChain_17 : decode cX10_keepsChain 17 = .ok (.if_icmp .ge 29, 3) := by decide +kernel
theorem dX10_keepsChain_20 : decode cX10_keepsChain 20 = .ok (.aload_n 0, 1) := by decide +kernel
theorem dX10_keepsChain_21 : decode cX10_keepsChain 21 = .ok (.getfield 32, 3) := by decide +kernel
theorem dX10_keepsChain_24 : decode cX10_keepsChain 24 = .ok (.iload_n 3, 1) := by decide +kernel
theorem dX10_keepsChain_25 : decode cX10_keepsChain 25 = .ok (.iaload, 1) := by decide +kernel
theorem dX10_keepsChain_26 : decode cX10_keepsChain 26 = .ok (.iconst 5, 1) := by decide +kernel
theorem dX10_keepsChain_27 : decode cX10_keepsChain 27 = .ok (.if_icmp .ne 38, 3) := by decide +kernel
theorem dX10_keepsChain_30 : decode cX10_keepsChain 30 = .ok (.aload_n 0, 1) := by decide +kernel
theorem dX10_keepsChain_31 : decode cX10_keepsChain 31 = .ok (.getfield 44, 3) := by decide +kernel
theorem dX10_keepsChain_34 : decode cX10_keepsChain 34 = .ok (.iload_n 3, 1) := by decide +kernel
theorem dX10_keepsChain_35 : decode cX10_keepsChain 35 = .ok (.iaload, 1) := by decide +kernel
theorem dX10_keepsChain_36 : decode cX10_keepsChain 36 = .ok (.aload_n 0, 1) := by decide +kernel
theorem dX10_keepsChain_37 : decode cX10_keepsChain 37 = .ok (.getfield 237, 3) := by decide +kernel
theorem dX10_keepsChain_40 : decode cX10_keepsChain 40 = .ok (.if_icmp .gt 6, 3) := by decide +kernel
theorem dX10_keepsChain_43 : decode cX10_keepsChain 43 = .ok (.goto 22, 3) := by decide +kernel
theorem dX10_keepsChain_46 : decode cX10_keepsChain 46 = .ok (.aload_n 0, 1) := by decide +kernel
theorem dX10_keepsChain_47 : decode cX10_keepsChain 47 = .ok (.getfield 75, 3) := by decide +kernel
theorem dX10_keepsChain_50 : decode cX10_keepsChain 50 = .ok (.iconst 5, 1) := by decide +kernel
theorem dX10_keepsChain_51 : decode cX10_keepsChain 51 = .ok (.iload_n 1, 1) := by decide +kernel
theorem dX10_keepsChain_52 : decode cX10_keepsChain 52 = .ok (.imul, 1) := by decide +kernel
theorem dX10_keepsChain_53 : decode cX10_keepsChain 53 = .ok (.iload_n 2, 1) := by decide +kernel
theorem dX10_keepsChain_54 : decode cX10_keepsChain 54 = .ok (.iadd, 1) := by decide +kernel
theorem dX10_keepsChain_55 : decode cX10_keepsChain 55 = .ok (.aload_n 0, 1) := by decide +kernel
theorem dX10_keepsChain_56 : decode cX10_keepsChain 56 = .ok (.getfield 35, 3) := by decide +kernel
theorem dX10_keepsChain_59 : decode cX10_keepsChain 59 = .ok (.iload_n 3, 1) := by decide +kernel
theorem dX10_keepsChain_60 : decode cX10_keepsChain 60 = .ok (.iaload, 1) := by decide +kernel
theorem dX10_keepsChain_61 : decode cX10_keepsChain 61 = .ok (.iastore, 1) := by decide +kernel
theorem dX10_keepsChain_62 : decode cX10_keepsChain 62 = .ok (.iinc 2 1, 3) := by decide +kernel
theorem dX10_keepsChain_65 : decode cX10_keepsChain 65 = .ok (.iinc 3 1, 3) := by decide +kernel
theorem dX10_keepsChain_68 : decode cX10_keepsChain 68 = .ok (.goto (-64), 3) := by decide +kernel
theorem dX10_keepsChain_71 : decode cX10_keepsChain 71 = .ok (.aload_n 0, 1) := by decide +kernel
theorem dX10_keepsChain_72 : decode cX10_keepsChain 72 = .ok (.getfield 72, 3) := by decide +kernel
theorem dX10_keepsChain_75 : decode cX10_keepsChain 75 = .ok (.iload_n 1, 1) := by decide +kernel
theorem dX10_keepsChain_76 : decode cX10_keepsChain 76 = .ok (.iload_n 2, 1) := by decide +kernel
theorem dX10_keepsChain_77 : decode cX10_keepsChain 77 = .ok (.iastore, 1) := by decide +kernel
theorem dX10_keepsChain_78 : decode cX10_keepsChain 78 = .ok (.return_, 1) := by decide +kernel
theorem dX10_run_0 : decode cX10_run 0 = .ok (.aload_n 0, 1) := by decide +kernel
theorem dX10_run_1 : decode cX10_run 1 = .ok (.aload_n 0, 1) := by decide +kernel
theorem dX10_run_2 : decode cX10_run 2 = .ok (.getfield 9, 3) := by decide +kernel
theorem dX10_run_5 : decode cX10_run 5 = .ok (.iconst 0, 1) := by decide +kernel
theorem dX10_run_6 : decode cX10_run 6 = .ok (.iaload, 1) := by decide +kernel
theorem dX10_run_7 : decode cX10_run 7 = .ok (.ifCond .ne 7, 3) := by decide +kernel
theorem dX10_run_10 : decode cX10_run 10 = .ok (.iconst 1, 1) := by decide +kernel
theorem dX10_run_11 : decode cX10_run 11 = .ok (.goto 4, 3) := by decide +kernel
theorem dX10_run_14 : decode cX10_run 14 = .ok (.iconst 0, 1) := by decide +kernel
theorem dX10_run_15 : decode cX10_run 15 = .ok (.putfield 78, 3) := by decide +kernel
theorem dX10_run_18 : decode cX10_run 18 = .ok (.aload_n 0, 1) := by decide +kernel
theorem dX10_run_19 : decode cX10_run 19 = .ok (.getfield 78, 3) := by decide +kernel
theorem dX10_run_22 : decode cX10_run 22 = .ok (.ifCond .eq 5, 3) := by decide +kernel
theorem dX10_run_25 : decode cX10_run 25 = .ok (.iconst 0, 1) := by decide +kernel
theorem dX10_run_26 : decode cX10_run 26 = .ok (.ireturn, 1) := by decide +kernel
theorem dX10_run_27 : decode cX10_run 27 = .ok (.aload_n 0, 1) := by decide +kernel
theorem dX10_run_28 : decode cX10_run 28 = .ok (.invokevirtual 199, 3) := by decide +kernel
theorem dX10_run_31 : decode cX10_run 31 = .ok (.aload_n 0, 1) := by decide +kernel
theorem dX10_run_32 : decode cX10_run 32 = .ok (.aload_n 0, 1) := by decide +kernel
theorem dX10_run_33 : decode cX10_run 33 = .ok (.getfield 9, 3) := by decide +kernel
theorem dX10_run_36 : decode cX10_run 36 = .ok (.iconst 0, 1) := by decide +kernel
theorem dX10_run_37 : decode cX10_run 37 = .ok (.iaload, 1) := by decide +kernel
theorem dX10_run_38 : decode cX10_run 38 = .ok (.putfield 60, 3) := by decide +kernel
theorem dX10_run_41 : decode cX10_run 41 = .ok (.iconst 0, 1) := by decide +kernel
theorem dX10_run_42 : decode cX10_run 42 = .ok (.istore_n 1, 1) := by decide +kernel
theorem dX10_run_43 : decode cX10_run 43 = .ok (.iconst 0, 1) := by decide +kernel
theorem dX10_run_44 : decode cX10_run 44 = .ok (.istore_n 2, 1) := by decide +kernel
theorem dX10_run_45 : decode cX10_run 45 = .ok (.iload_n 2, 1) := by decide +kernel
theorem dX10_run_46 : decode cX10_run 46 = .ok (.aload_n 0, 1) := by decide +kernel
theorem dX10_run_47 : decode cX10_run 47 = .ok (.getfield 60, 3) := by decide +kernel
theorem dX10_run_50 : decode cX10_run 50 = .ok (.if_icmp .ge 115, 3) := by decide +kernel
theorem dX10_run_53 : decode cX10_run 53 = .ok (.aload_n 0, 1) := by decide +kernel
theorem dX10_run_54 : decode cX10_run 54 = .ok (.getfield 63, 3) := by decide +kernel
theorem dX10_run_57 : decode cX10_run 57 = .ok (.iload_n 2, 1) := by decide +kernel
theorem dX10_run_58 : decode cX10_run 58 = .ok (.aload_n 0, 1) := by decide +kernel
theorem dX10_run_59 : decode cX10_run 59 = .ok (.iload_n 2, 1) := by decide +kernel
theorem dX10_run_60 : decode cX10_run 60 = .ok (.aload_n 0, 1) := by decide +kernel
theorem dX10_run_61 : decode cX10_run 61 = .ok (.getfield 9, 3) := by decide +kernel
theorem dX10_run_64 : decode cX10_run 64 = .ok (.iconst 2, 1) := by decide +kernel
theorem dX10_run_65 : decode cX10_run 65 = .ok (.iaload, 1) := by decide +kernel
theorem dX10_run_66 : decode cX10_run 66 = .ok (.iconst 0, 1) := by decide +kernel
theorem dX10_run_67 : decode cX10_run 67 = .ok (.invokevirtual 256, 3) := by decide +kernel
theorem dX10_run_70 : decode cX10_run 70 = .ok (.iastore, 1) := by decide +kernel
theorem dX10_run_71 : decode cX10_run 71 = .ok (.aload_n 0, 1) := by decide +kernel
theorem dX10_run_72 : decode cX10_run 72 = .ok (.getfield 66, 3) := by decide +kernel
theorem dX10_run_75 : decode cX10_run 75 = .ok (.iload_n 2, 1) := by decide +kernel
theorem dX10_run_76 : decode cX10_run 76 = .ok (.iconst 0, 1) := by decide +kernel
theorem dX10_run_77 : decode cX10_run 77 = .ok (.iastore, 1) := by decide +kernel
theorem dX10_run_78 : decode cX10_run 78 = .ok (.aload_n 0, 1) := by decide +kernel
theorem dX10_run_79 : decode cX10_run 79 = .ok (.getfield 72, 3) := by decide +kernel
theorem dX10_run_82 : decode cX10_run 82 = .ok (.iload_n 2, 1) := by decide +kernel
theorem dX10_run_83 : decode cX10_run 83 = .ok (.iconst 0, 1) := by decide +kernel
theorem dX10_run_84 : decode cX10_run 84 = .ok (.iastore, 1) := by decide +kernel
theorem dX10_run_85 : decode cX10_run 85 = .ok (.aload_n 0, 1) := by decide +kernel
theorem dX10_run_86 : decode cX10_run 86 = .ok (.getfield 63, 3) := by decide +kernel
theorem dX10_run_89 : decode cX10_run 89 = .ok (.iload_n 2, 1) := by decide +kernel
theorem dX10_run_90 : decode cX10_run 90 = .ok (.iaload, 1) := by decide +kernel
theorem dX10_run_91 : decode cX10_run 91 = .ok (.iconst 2, 1) := by decide +kernel
theorem dX10_run_92 : decode cX10_run 92 = .ok (.if_icmp .le 8, 3) := by decide +kernel
theorem dX10_run_95 : decode cX10_run 95 = .ok (.aload_n 0, 1) := by decide +kernel
