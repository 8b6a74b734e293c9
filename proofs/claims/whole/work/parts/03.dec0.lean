theorem dX0_init_0 : decode cX0_init 0 = .ok (.aload_n 0, 1) := by decide +kernel
theorem dX0_init_1 : decode cX0_init 1 = .ok (.invokespecial 1, 3) := by decide +kernel
theorem dX0_init_4 : decode cX0_init 4 = .ok (.aload_n 0, 1) := by decide +kernel
theorem dX0_init_5 : decode cX0_init 5 = .ok (.iload_n 1, 1) := by decide +kernel
theorem dX0_init_6 : decode cX0_init 6 = .ok (.putfield 7, 3) := by decide +kernel
theorem dX0_init_9 : decode cX0_init 9 = .ok (.aload_n 0, 1) := by decide +kernel
theorem dX0_init_10 : decode cX0_init 10 = .ok (.iload_n 2, 1) := by decide +kernel
theorem dX0_init_11 : decode cX0_init 11 = .ok (.putfield 13, 3) := by decide +kernel
theorem dX0_init_14 : decode cX0_init 14 = .ok (.aload_n 0, 1) := by decide +kernel
theorem dX0_init_15 : decode cX0_init 15 = .ok (.iload_n 3, 1) := by decide +kernel
theorem dX0_init_16 : decode cX0_init 16 = .ok (.putfield 17, 3) := by decide +kernel
theorem dX0_init_19 : decode cX0_init 19 = .ok (.aload_n 0, 1) := by decide +kernel
theorem dX0_init_20 : decode cX0_init 20 = .ok (.aload 4, 2) := by decide +kernel
theorem dX0_init_22 : decode cX0_init 22 = .ok (.putfield 20, 3) := by decide +kernel
theorem dX0_init_25 : decode cX0_init 25 = .ok (.return_, 1) := by decide +kernel
theorem dX0_isTrueFor_0 : decode cX0_isTrueFor 0 = .ok (.aload_n 0, 1) := by decide +kernel
theorem dX0_isTrueFor_1 : decode cX0_isTrueFor 1 = .ok (.getfield 7, 3) := by decide +kernel
theorem dX0_isTrueFor_4 : decode cX0_isTrueFor 4 = .ok (.aload_n 0, 1) := by decide +kernel
theorem dX0_isTrueFor_5 : decode cX0_isTrueFor 5 = .ok (.aload_n 1, 1) := by decide +kernel
theorem dX0_isTrueFor_6 : decode cX0_isTrueFor 6 = .ok (.invokevirtual 24, 3) := by decide +kernel
theorem dX0_isTrueFor_9 : decode cX0_isTrueFor 9 = .ok (.if_icmp .eq 7, 3) := by decide +kernel
theorem dX0_isTrueFor_12 : decode cX0_isTrueFor 12 = .ok (.iconst 1, 1) := by decide +kernel
theorem dX0_isTrueFor_13 : decode cX0_isTrueFor 13 = .ok (.goto 4, 3) := by decide +kernel
theorem dX0_isTrueFor_16 : decode cX0_isTrueFor 16 = .ok (.iconst 0, 1) := by decide +kernel
theorem dX0_isTrueFor_17 : decode cX0_isTrueFor 17 = .ok (.ireturn, 1) := by decide +kernel
theorem dX0_holdsFor_0 : decode cX0_holdsFor 0 = .ok (.aload_n 0, 1) := by decide +kernel
theorem dX0_holdsFor_1 : decode cX0_holdsFor 1 = .ok (.getfield 13, 3) := by decide +kernel
theorem dX0_holdsFor_4 : decode cX0_holdsFor 4 = .ok (.lookupswitch 115 #[(60, 81), (61, 98), (102, 44), (103, 64)], 44) := by decide +kernel
theorem dX0_holdsFor_48 : decode cX0_holdsFor 48 = .ok (.aload_n 1, 1) := by decide +kernel
theorem dX0_holdsFor_49 : decode cX0_holdsFor 49 = .ok (.aload_n 0, 1) := by decide +kernel
theorem dX0_holdsFor_50 : decode cX0_holdsFor 50 = .ok (.getfield 17, 3) := by decide +kernel
theorem dX0_holdsFor_53 : decode cX0_holdsFor 53 = .ok (.invokevirtual 28, 3) := by decide +kernel
theorem dX0_holdsFor_56 : decode cX0_holdsFor 56 = .ok (.invokevirtual 34, 3) := by decide +kernel
theorem dX0_holdsFor_59 : decode cX0_holdsFor 59 = .ok (.ifCond .ne 7, 3) := by decide +kernel
theorem dX0_holdsFor_62 : decode cX0_holdsFor 62 = .ok (.iconst 1, 1) := by decide +kernel
theorem dX0_holdsFor_63 : decode cX0_holdsFor 63 = .ok (.goto 4, 3) := by decide +kernel
theorem dX0_holdsFor_66 : decode cX0_holdsFor 66 = .ok (.iconst 0, 1) := by decide +kernel
theorem dX0_holdsFor_67 : decode cX0_holdsFor 67 = .ok (.ireturn, 1) := by decide +kernel
theorem dX0_holdsFor_68 : decode cX0_holdsFor 68 = .ok (.aload_n 1, 1) := by decide +kernel
theorem dX0_holdsFor_69 : decode cX0_holdsFor 69 = .ok (.getfield 40, 3) := by decide +kernel
theorem dX0_holdsFor_72 : decode cX0_holdsFor 72 = .ok (.aload_n 0, 1) := by decide +kernel
theorem dX0_holdsFor_73 : decode cX0_holdsFor 73 = .ok (.getfield 17, 3) := by decide +kernel
theorem dX0_holdsFor_76 : decode cX0_holdsFor 76 = .ok (.if_icmp .ne 7, 3) := by decide +kernel
theorem dX0_holdsFor_79 : decode cX0_holdsFor 79 = .ok (.iconst 1, 1) := by decide +kernel
theorem dX0_holdsFor_80 : decode cX0_holdsFor 80 = .ok (.goto 4, 3) := by decide +kernel
theorem dX0_holdsFor_83 : decode cX0_holdsFor 83 = .ok (.iconst 0, 1) := by decide +kernel
theorem dX0_holdsFor_84 : decode cX0_holdsFor 84 = .ok (.ireturn, 1) := by decide +kernel
theorem dX0_holdsFor_85 : decode cX0_holdsFor 85 = .ok (.aload_n 1, 1) := by decide +kernel
theorem dX0_holdsFor_86 : decode cX0_holdsFor 86 = .ok (.getfield 43, 3) := by decide +kernel
theorem dX0_holdsFor_89 : decode cX0_holdsFor 89 = .ok (.aload_n 0, 1) := by decide +kernel
theorem dX0_holdsFor_90 : decode cX0_holdsFor 90 = .ok (.getfield 17, 3) := by decide +kernel
theorem dX0_holdsFor_93 : decode cX0_holdsFor 93 = .ok (.if_icmp .ge 7, 3) := by decide +kernel
theorem dX0_holdsFor_96 : decode cX0_holdsFor 96 = .ok (.iconst 1, 1) := by decide +kernel
theorem dX0_holdsFor_97 : decode cX0_holdsFor 97 = .ok (.goto 4, 3) := by decide +kernel
theorem dX0_holdsFor_100 : decode cX0_holdsFor 100 = .ok (.iconst 0, 1) := by decide +kernel
theorem dX0_holdsFor_101 : decode cX0_holdsFor 101 = .ok (.ireturn, 1) := by decide +kernel
theorem dX0_holdsFor_102 : decode cX0_holdsFor 102 = .ok (.aload_n 1, 1) := by decide +kernel
theorem dX0_holdsFor_103 : decode cX0_holdsFor 103 = .ok (.getfield 43, 3) := by decide +kernel
theorem dX0_holdsFor_106 : decode cX0_holdsFor 106 = .ok (.aload_n 0, 1) := by decide +kernel
theorem dX0_holdsFor_107 : decode cX0_holdsFor 107 = .ok (.getfield 17, 3) := by decide +kernel
theorem dX0_holdsFor_110 : decode cX0_holdsFor 110 = .ok (.if_icmp .ne 7, 3) := by decide +kernel
theorem dX0_holdsFor_113 : decode cX0_holdsFor 113 = .ok (.iconst 1, 1) := by decide +kernel
theorem dX0_holdsFor_114 : decode cX0_holdsFor 114 = .ok (.goto 4, 3) := by decide +kernel
theorem dX0_holdsFor_117 : decode cX0_holdsFor 117 = .ok (.iconst 0, 1) := by decide +kernel
theorem dX0_holdsFor_118 : decode cX0_holdsFor 118 = .ok (.ireturn, 1) := by decide +kernel
theorem dX0_holdsFor_119 : decode cX0_holdsFor 119 = .ok (.aload_n 1, 1) := by decide +kernel
theorem dX0_holdsFor_120 : decode cX0_holdsFor 120 = .ok (.getfield 43, 3) := by decide +kernel
theorem dX0_holdsFor_123 : decode cX0_holdsFor 123 = .ok (.aload_n 0, 1) := by decide +kernel
theorem dX0_holdsFor_124 : decode cX0_holdsFor 124 = .ok (.getfield 17, 3) := by decide +kernel
theorem dX0_holdsFor_127 : decode cX0_holdsFor 127 = .ok (.if_icmp .le 7, 3) := by decide +kernel
theorem dX0_holdsFor_130 : decode cX0_holdsFor 130 = .ok (.iconst 1, 1) := by decide +kernel
theorem dX0_holdsFor_131 : decode cX0_holdsFor 131 = .ok (.goto 4, 3) := by decide +kernel
theorem dX0_holdsFor_134 : decode cX0_holdsFor 134 = .ok (.iconst 0, 1) := by decide +kernel
theorem dX0_holdsFor_135 : decode cX0_holdsFor 135 = .ok (.ireturn, 1) := by decide +kernel
theorem dX1_init_0 : decode cX1_init 0 = .ok (.aload_n 0, 1) := by decide +kernel
theorem dX1_init_1 : decode cX1_init 1 = .ok (.iload_n 1, 1) := by decide +kernel
theorem dX1_init_2 : decode cX1_init 2 = .ok (.iload_n 2, 1) := by decide +kernel
theorem dX1_init_3 : decode cX1_init 3 = .ok (.iconst 5, 1) := by decide +kernel
theorem dX1_init_4 : decode cX1_init 4 = .ok (.anewarray 3, 3) := by decide +kernel
theorem dX1_init_7 : decode cX1_init 7 = .ok (.invokespecial 5, 3) := by decide +kernel
theorem dX1_init_10 : decode cX1_init 10 = .ok (.new 3, 3) := by decide +kernel
theorem dX1_init_13 : decode cX1_init 13 = .ok (.dup, 1) := by decide +kernel
theorem dX1_init_14 : decode cX1_init 14 = .ok (.ldc 11, 2) := by decide +kernel
theorem dX1_init_16 : decode cX1_init 16 = .ok (.invokespecial 13, 3) := by decide +kernel
theorem dX1_init_19 : decode cX1_init 19 = .ok (.astore_n 3, 1) := by decide +kernel
theorem dX1_init_20 : decode cX1_init 20 = .ok (.iconst 0, 1) := by decide +kernel
theorem dX1_init_21 : decode cX1_init 21 = .ok (.istore 4, 2) := by decide +kernel
theorem dX1_init_23 : decode cX1_init 23 = .ok (.iload 4, 2) := by decide +kernel
theorem dX1_init_25 : decode cX1_init 25 = .ok (.aload_n 0, 1) := by decide +kernel
theorem dX1_init_26 : decode cX1_init 26 = .ok (.getfield 16, 3) := by decide +kernel
theorem dX1_init_29 : decode cX1_init 29 = .ok (.arraylength, 1) := by decide +kernel
theorem dX1_init_30 : decode cX1_init 30 = .ok (.if_icmp .ge 17, 3) := by decide +kernel
theorem dX1_init_33 : decode cX1_init 33 = .ok (.aload_n 0, 1) := by decide +kernel
theorem dX1_init_34 : decode cX1_init 34 = .ok (.getfield 16, 3) := by decide +kernel
theorem dX1_init_37 : decode cX1_init 37 = .ok (.iload 4, 2) := by decide +kernel
theorem dX1_init_39 : decode cX1_init 39 = .ok (.aload_n 3, 1) := by decide +kernel
theorem dX1_init_40 : decode cX1_init 40 = .ok (.aastore, 1) := by decide +kernel
theorem dX1_init_41 : decode cX1_init 41 = .ok (.iinc 4 1, 3) := by decide +kernel
theorem dX1_init_44 : decode cX1_init 44 = .ok (.goto (-21), 3) := by decide +kernel
theorem dX1_init_47 : decode cX1_init 47 = .ok (.return_, 1) := by decide +kernel
theorem dX1_init__0 : decode cX1_init_ 0 = .ok (.aload_n 0, 1) := by decide +kernel
theorem dX1_init__1 : decode cX1_init_ 1 = .ok (.invokespecial 20, 3) := by decide +kernel
theorem dX1_init__4 : decode cX1_init_ 4 = .ok (.aload_n 0, 1) := by decide +kernel
theorem dX1_init__5 : decode cX1_init_ 5 = .ok (.iload_n 1, 1) := by decide +kernel
theorem dX1_init__6 : decode cX1_init_ 6 = .ok (.putfield 25, 3) := by decide +kernel
theorem dX1_init__9 : decode cX1_init_ 9 = .ok (.aload_n 0, 1) := by decide +kernel
theorem dX1_init__10 : decode cX1_init_ 10 = .ok (.iload_n 2, 1) := by decide +kernel
theorem dX1_init__11 : decode cX1_init_ 11 = .ok (.putfield 29, 3) := by decide +kernel
theorem dX1_init__14 : decode cX1_init_ 14 = .ok (.aload_n 0, 1) := by decide +kernel
theorem dX1_init__15 : decode cX1_init_ 15 = .ok (.aload_n 3, 1) := by decide +kernel
theorem dX1_init__16 : decode cX1_init_ 16 = .ok (.putfield 16, 3) := by decide +kernel
theorem dX1_init__19 : decode cX1_init_ 19 = .ok (.return_, 1) := by decide +kernel
theorem dX1_withGroup_0 : decode cX1_withGroup 0 = .ok (.new 6, 3) := by decide +kernel
theorem dX1_withGroup_3 : decode cX1_withGroup 3 = .ok (.dup, 1) := by decide +kernel
theorem dX1_withGroup_4 : decode cX1_withGroup 4 = .ok (.iload_n 1, 1) := by decide +kernel
theorem dX1_withGroup_5 : decode cX1_withGroup 5 = .ok (.aload_n 0, 1) := by decide +kernel
theorem dX1_withGroup_6 : decode cX1_withGroup 6 = .ok (.getfield 29, 3) := by decide +kernel
theorem dX1_withGroup_9 : decode cX1_withGroup 9 = .ok (.aload_n 0, 1) := by decide +kernel
theorem dX1_withGroup_10 : decode cX1_withGroup 10 = .ok (.getfield 16, 3) := by decide +kernel
theorem dX1_withGroup_13 : decode cX1_withGroup 13 = .ok (.invokespecial 5, 3) := by decide +kernel
theorem dX1_withGroup_16 : decode cX1_withGroup 16 = .ok (.areturn, 1) := by decide +kernel
theorem dX1_withCount_0 : decode cX1_withCount 0 = .ok (.new 6, 3) := by decide +kernel
theorem dX1_withCount_3 : decode cX1_withCount 3 = .ok (.dup, 1) := by decide +kernel
theorem dX1_withCount_4 : decode cX1_withCount 4 = .ok (.aload_n 0, 1) := by decide +kernel
theorem dX1_withCount_5 : decode cX1_withCount 5 = .ok (.getfield 25, 3) := by decide +kernel
theorem dX1_withCount_8 : decode cX1_withCount 8 = .ok (.iload_n 1, 1) := by decide +kernel
theorem dX1_withCount_9 : decode cX1_withCount 9 = .ok (.aload_n 0, 1) := by decide +kernel
theorem dX1_withCount_10 : decode cX1_withCount 10 = .ok (.getfield 16, 3) := by decide +kernel
theorem dX1_withCount_13 : decode cX1_withCount 13 = .ok (.invokespecial 5, 3) := by decide +kernel
theorem dX1_withCount_16 : decode cX1_withCount 16 = .ok (.areturn, 1) := by decide +kernel
theorem dX1_withText_0 : decode cX1_withText 0 = .ok (.iconst 5, 1) := by decide +kernel
theorem dX1_withText_1 : decode cX1_withText 1 = .ok (.anewarray 3, 3) := by decide +kernel
theorem dX1_withText_4 : decode cX1_withText 4 = .ok (.astore_n 3, 1) := by decide +kernel
theorem dX1_withText_5 : decode cX1_withText 5 = .ok (.iconst 0, 1) := by decide +kernel
theorem dX1_withText_6 : decode cX1_withText 6 = .ok (.istore 4, 2) := by decide +kernel
theorem dX1_withText_8 : decode cX1_withText 8 = .ok (.iload 4, 2) := by decide +kernel
theorem dX1_withText_10 : decode cX1_withText 10 = .ok (.aload_n 3, 1) := by decide +kernel
theorem dX1_withText_11 : decode cX1_withText 11 = .ok (.arraylength, 1) := by decide +kernel
theorem dX1_withText_12 : decode cX1_withText 12 = .ok (.if_icmp .ge 30, 3) := by decide +kernel
theorem dX1_withText_15 : decode cX1_withText 15 = .ok (.aload_n 3, 1) := by decide +kernel
theorem dX1_withText_16 : decode cX1_withText 16 = .ok (.iload 4, 2) := by decide +kernel
theorem dX1_withText_18 : decode cX1_withText 18 = .ok (.iload 4, 2) := by decide +kernel
theorem dX1_withText_20 : decode cX1_withText 20 = .ok (.iload_n 1, 1) := by decide +kernel
theorem dX1_withText_21 : decode cX1_withText 21 = .ok (.if_icmp .ne 7, 3) := by decide +kernel
theorem dX1_withText_24 : decode cX1_withText 24 = .ok (.aload_n 2, 1) := by decide +kernel
theorem dX1_withText_25 : decode cX1_withText 25 = .ok (.goto 10, 3) := by decide +kernel
theorem dX1_withText_28 : decode cX1_withText 28 = .ok (.aload_n 0, 1) := by decide +kernel
theorem dX1_withText_29 : decode cX1_withText 29 = .ok (.getfield 16, 3) := by decide +kernel
theorem dX1_withText_32 : decode cX1_withText 32 = .ok (.iload 4, 2) := by decide +kernel
theorem dX1_withText_34 : decode cX1_withText 34 = .ok (.aaload, 1) := by decide +kernel
theorem dX1_withText_35 : decode cX1_withText 35 = .ok (.aastore, 1) := by decide +kernel
theorem dX1_withText_36 : decode cX1_withText 36 = .ok (.iinc 4 1, 3) := by decide +kernel
theorem dX1_withText_39 : decode cX1_withText 39 = .ok (.goto (-31), 3) := by decide +kernel
theorem dX1_withText_42 : decode cX1_withText 42 = .ok (.new 6, 3) := by decide +kernel
theorem dX1_withText_45 : decode cX1_withText 45 = .ok (.dup, 1) := by decide +kernel
theorem dX1_withText_46 : decode cX1_withText 46 = .ok (.aload_n 0, 1) := by decide +kernel
theorem dX1_withText_47 : decode cX1_withText 47 = .ok (.getfield 25, 3) := by decide +kernel
theorem dX1_withText_50 : decode cX1_withText 50 = .ok (.aload_n 0, 1) := by decide +kernel
theorem dX1_withText_51 : decode cX1_withText 51 = .ok (.getfield 29, 3) := by decide +kernel
theorem dX1_withText_54 : decode cX1_withText 54 = .ok (.aload_n 3, 1) := by decide +kernel
theorem dX1_withText_55 : decode cX1_withText 55 = .ok (.invokespecial 5, 3) := by decide +kernel
theorem dX1_withText_58 : decode cX1_withText 58 = .ok (.areturn, 1) := by decide +kernel
theorem dX1_textAt_0 : decode cX1_textAt 0 = .ok (.aload_n 0, 1) := by decide +kernel
theorem dX1_textAt_1 : decode cX1_textAt 1 = .ok (.getfield 16, 3) := by decide +kernel
theorem dX1_textAt_4 : decode cX1_textAt 4 = .ok (.iconst 0, 1) := by decide +kernel
theorem dX1_textAt_5 : decode cX1_textAt 5 = .ok (.iload_n 1, 1) := by decide +kernel
theorem dX1_textAt_6 : decode cX1_textAt 6 = .ok (.iconst 4, 1) := by decide +kernel
theorem dX1_textAt_7 : decode cX1_textAt 7 = .ok (.invokestatic 32, 3) := by decide +kernel
theorem dX1_textAt_10 : decode cX1_textAt 10 = .ok (.invokestatic 38, 3) := by decide +kernel
theorem dX1_textAt_13 : decode cX1_textAt 13 = .ok (.aaload, 1) := by decide +kernel
theorem dX1_textAt_14 : decode cX1_textAt 14 = .ok (.areturn, 1) := by decide +kernel
theorem dX1_filledFields_0 : decode cX1_filledFields 0 = .ok (.iconst 0, 1) := by decide +kernel
theorem dX1_filledFields_1 : decode cX1_filledFields 1 = .ok (.istore_n 1, 1) := by decide +kernel
theorem dX1_filledFields_2 : decode cX1_filledFields 2 = .ok (.iconst 0, 1) := by decide +kernel
theorem dX1_filledFields_3 : decode cX1_filledFields 3 = .ok (.istore_n 2, 1) := by decide +kernel
theorem dX1_filledFields_4 : decode cX1_filledFields 4 = .ok (.iload_n 2, 1) := by decide +kernel
theorem dX1_filledFields_5 : decode cX1_filledFields 5 = .ok (.aload_n 0, 1) := by decide +kernel
theorem dX1_filledFields_6 : decode cX1_filledFields 6 = .ok (.getfield 16, 3) := by decide +kernel
theorem dX1_filledFields_9 : decode cX1_filledFields 9 = .ok (.arraylength, 1) := by decide +kernel
theorem dX1_filledFields_10 : decode cX1_filledFields 10 = .ok (.if_icmp .ge 31, 3) := by decide +kernel
theorem dX1_filledFields_13 : decode cX1_filledFields 13 = .ok (.iload_n 1, 1) := by decide +kernel
theorem dX1_filledFields_14 : decode cX1_filledFields 14 = .ok (.aload_n 0, 1) := by decide +kernel
theorem dX1_filledFields_15 : decode cX1_filledFields 15 = .ok (.getfield 16, 3) := by decide +kernel
theorem dX1_filledFields_18 : decode cX1_filledFields 18 = .ok (.iload_n 2, 1) := by decide +kernel
theorem dX1_filledFields_19 : decode cX1_filledFields 19 = .ok (.aaload, 1) := by decide +kernel
theorem dX1_filledFields_20 : decode cX1_filledFields 20 = .ok (.invokevirtual 41, 3) := by decide +kernel
theorem dX1_filledFields_23 : decode cX1_filledFields 23 = .ok (.ifCond .eq 7, 3) := by decide +kernel
theorem dX1_filledFields_26 : decode cX1_filledFields 26 = .ok (.iconst 0, 1) := by decide +kernel
theorem dX1_filledFields_27 : decode cX1_filledFields 27 = .ok (.goto 6, 3) := by decide +kernel
theorem dX1_filledFields_30 : decode cX1_filledFields 30 = .ok (.iconst 1, 1) := by decide +kernel
theorem dX1_filledFields_31 : decode cX1_filledFields 31 = .ok (.iload_n 2, 1) := by decide +kernel
theorem dX1_filledFields_32 : decode cX1_filledFields 32 = .ok (.ishl, 1) := by decide +kernel
theorem dX1_filledFields_33 : decode cX1_filledFields 33 = .ok (.ior, 1) := by decide +kernel
theorem dX1_filledFields_34 : decode cX1_filledFields 34 = .ok (.istore_n 1, 1) := by decide +kernel
theorem dX1_filledFields_35 : decode cX1_filledFields 35 = .ok (.iinc 2 1, 3) := by decide +kernel
theorem dX1_filledFields_38 : decode cX1_filledFields 38 = .ok (.goto (-34), 3) := by decide +kernel
theorem dX1_filledFields_41 : decode cX1_filledFields 41 = .ok (.iload_n 1, 1) := by decide +kernel
theorem dX1_filledFields_42 : decode cX1_filledFields 42 = .ok (.ireturn, 1) := by decide +kernel
theorem dX2_init_0 : decode cX2_init 0 = .ok (.aload_n 0, 1) := by decide +kernel
theorem dX2_init_1 : decode cX2_init 1 = .ok (.invokespecial 1, 3) := by decide +kernel
theorem dX2_init_4 : decode cX2_init 4 = .ok (.aload_n 0, 1) := by decide +kernel
theorem dX2_init_5 : decode cX2_init 5 = .ok (.iconst 0, 1) := by decide +kernel
theorem dX2_init_6 : decode cX2_init 6 = .ok (.putfield 7, 3) := by decide +kernel
theorem dX2_init_9 : decode cX2_init 9 = .ok (.aload_n 0, 1) := by decide +kernel
theorem dX2_init_10 : decode cX2_init 10 = .ok (.iconst 0, 1) := by decide +kernel
theorem dX2_init_11 : decode cX2_init 11 = .ok (.putfield 13, 3) := by decide +kernel
theorem dX2_init_14 : decode cX2_init 14 = .ok (.aload_n 0, 1) := by decide +kernel
theorem dX2_init_15 : decode cX2_init 15 = .ok (.iconst 0, 1) := by decide +kernel
theorem dX2_init_16 : decode cX2_init 16 = .ok (.putfield 16, 3) := by decide +kernel
theorem dX2_init_19 : decode cX2_init 19 = .ok (.aload_n 0, 1) := by decide +kernel
theorem dX2_init_20 : decode cX2_init 20 = .ok (.iconst 0, 1) := by decide +kernel
theorem dX2_init_21 : decode cX2_init 21 = .ok (.putfield 19, 3) := by decide +kernel
theorem dX2_init_24 : decode cX2_init 24 = .ok (.aload_n 0, 1) := by decide +kernel
theorem dX2_init_25 : decode cX2_init 25 = .ok (.iload_n 1, 1) := by decide +kernel
theorem dX2_init_26 : decode cX2_init 26 = .ok (.putfield 22, 3) := by decide +kernel
theorem dX2_init_29 : decode cX2_init 29 = .ok (.aload_n 0, 1) := by decide +kernel
theorem dX2_init_30 : decode cX2_init 30 = .ok (.iconst 0, 1) := by decide +kernel
theorem dX2_init_31 : decode cX2_init 31 = .ok (.iload_n 1, 1) := by decide +kernel
theorem dX2_init_32 : decode cX2_init 32 = .ok (.invokestatic 25, 3) := by decide +kernel
theorem dX2_init_35 : decode cX2_init 35 = .ok (.anewarray 31, 3) := by decide +kernel
theorem dX2_init_38 : decode cX2_init 38 = .ok (.putfield 33, 3) := by decide +kernel
theorem dX2_init_41 : decode cX2_init 41 = .ok (.return_, 1) := by decide +kernel
theorem dX2_addLast_0 : decode cX2_addLast 0 = .ok (.aload_n 0, 1) := by decide +kernel
theorem dX2_addLast_1 : decode cX2_addLast 1 = .ok (.getfield 7, 3) := by decide +kernel
theorem dX2_addLast_4 : decode cX2_addLast 4 = .ok (.aload_n 0, 1) := by decide +kernel
theorem dX2_addLast_5 : decode cX2_addLast 5 = .ok (.getfield 33, 3) := by decide +kernel
theorem dX2_addLast_8 : decode cX2_addLast 8 = .ok (.arraylength, 1) := by decide +kernel
theorem dX2_addLast_9 : decode cX2_addLast 9 = .ok (.if_icmp .ge 23, 3) := by decide +kernel
theorem dX2_addLast_12 : decode cX2_addLast 12 = .ok (.aload_n 0, 1) := by decide +kernel
theorem dX2_addLast_13 : decode cX2_addLast 13 = .ok (.getfield 33, 3) := by decide +kernel
theorem dX2_addLast_16 : decode cX2_addLast 16 = .ok (.aload_n 0, 1) := by decide +kernel
theorem dX2_addLast_17 : decode cX2_addLast 17 = .ok (.getfield 7, 3) := by decide +kernel
theorem dX2_addLast_20 : decode cX2_addLast 20 = .ok (.aload_n 1, 1) := by decide +kernel
theorem dX2_addLast_21 : decode cX2_addLast 21 = .ok (.aastore, 1) := by decide +kernel
theorem dX2_addLast_22 : decode cX2_addLast 22 = .ok (.aload_n 0, 1) := by decide +kernel
theorem dX2_addLast_23 : decode cX2_addLast 23 = .ok (.dup, 1) := by decide +kernel
theorem dX2_addLast_24 : decode cX2_addLast 24 = .ok (.getfield 7, 3) := by decide +kernel
theorem dX2_addLast_27 : decode cX2_addLast 27 = .ok (.iconst 1, 1) := by decide +kernel
theorem dX2_addLast_28 : decode cX2_addLast 28 = .ok (.iadd, 1) := by decide +kernel
theorem dX2_addLast_29 : decode cX2_addLast 29 = .ok (.putfield 7, 3) := by decide +kernel
theorem dX2_addLast_32 : decode cX2_addLast 32 = .ok (.return_, 1) := by decide +kernel
theorem dX2_pieceAt_0 : decode cX2_pieceAt 0 = .ok (.iload_n 1, 1) := by decide +kernel
theorem dX2_pieceAt_1 : decode cX2_pieceAt 1 = .ok (.ifCond .lt 20, 3) := by decide +kernel
theorem dX2_pieceAt_4 : decode cX2_pieceAt 4 = .ok (.iload_n 1, 1) := by decide +kernel
theorem dX2_pieceAt_5 : decode cX2_pieceAt 5 = .ok (.aload_n 0, 1) := by decide +kernel
theorem dX2_pieceAt_6 : decode cX2_pieceAt 6 = .ok (.getfield 7, 3) := by decide +kernel
theorem dX2_pieceAt_9 : decode cX2_pieceAt 9 = .ok (.if_icmp .ge 12, 3) := by decide +kernel
theorem dX2_pieceAt_12 : decode cX2_pieceAt 12 = .ok (.aload_n 0, 1) := by decide +kernel
theorem dX2_pieceAt_13 : decode cX2_pieceAt 13 = .ok (.getfield 33, 3) := by decide +kernel
theorem dX2_pieceAt_16 : decode cX2_pieceAt 16 = .ok (.iload_n 1, 1) := by decide +kernel
theorem dX2_pieceAt_17 : decode cX2_pieceAt 17 = .ok (.aaload, 1) := by decide +kernel
theorem dX2_pieceAt_18 : decode cX2_pieceAt 18 = .ok (.goto 4, 3) := by decide +kernel
theorem dX2_pieceAt_21 : decode cX2_pieceAt 21 = .ok (.aconst_null, 1) := by decide +kernel
theorem dX2_pieceAt_22 : decode cX2_pieceAt 22 = .ok (.areturn, 1) := by decide +kernel
theorem dX3_init_0 : decode cX3_init 0 = .ok (.aload_n 0, 1) := by decide +kernel
theorem dX3_init_1 : decode cX3_init 1 = .ok (.invokespecial 3, 3) := by decide +kernel
theorem dX3_init_4 : decode cX3_init 4 = .ok (.aload_n 0, 1) := by decide +kernel
theorem dX3_init_5 : decode cX3_init 5 = .ok (.bipush 20, 2) := by decide +kernel
theorem dX3_init_7 : decode cX3_init 7 = .ok (.anewarray 9, 3) := by decide +kernel
theorem dX3_init_10 : decode cX3_init 10 = .ok (.putfield 11, 3) := by decide +kernel
theorem dX3_init_13 : decode cX3_init 13 = .ok (.aload_n 0, 1) := by decide +kernel
theorem dX3_init_14 : decode cX3_init 14 = .ok (.iconst 0, 1) := by decide +kernel
theorem dX3_init_15 : decode cX3_init 15 = .ok (.putfield 17, 3) := by decide +kernel
theorem dX3_init_18 : decode cX3_init 18 = .ok (.iconst 0, 1) := by decide +kernel
theorem dX3_init_19 : decode cX3_init 19 = .ok (.istore_n 1, 1) := by decide +kernel
theorem dX3_init_20 : decode cX3_init 20 = .ok (.iload_n 1, 1) := by decide +kernel
theorem dX3_init_21 : decode cX3_init 21 = .ok (.aload_n 0, 1) := by decide +kernel
theorem dX3_init_22 : decode cX3_init 22 = .ok (.getfield 11, 3) := by decide +kernel
theorem dX3_init_25 : decode cX3_init 25 = .ok (.arraylength, 1) := by decide +kernel
theorem dX3_init_26 : decode cX3_init 26 = .ok (.if_icmp .ge 22, 3) := by decide +kernel
theorem dX3_init_29 : decode cX3_init 29 = .ok (.aload_n 0, 1) := by decide +kernel
theorem dX3_init_30 : decode cX3_init 30 = .ok (.getfield 11, 3) := by decide +kernel
theorem dX3_init_33 : decode cX3_init 33 = .ok (.iload_n 1, 1) := by decide +kernel
theorem dX3_init_34 : decode cX3_init 34 = .ok (.new 9, 3) := by decide +kernel
theorem dX3_init_37 : decode cX3_init 37 = .ok (.dup, 1) := by decide +kernel
theorem dX3_init_38 : decode cX3_init 38 = .ok (.invokespecial 21, 3) := by decide +kernel
theorem dX3_init_41 : decode cX3_init 41 = .ok (.aastore, 1) := by decide +kernel
theorem dX3_init_42 : decode cX3_init 42 = .ok (.iinc 1 1, 3) := by decide +kernel
theorem dX3_init_45 : decode cX3_init 45 = .ok (.goto (-25), 3) := by decide +kernel
theorem dX3_init_48 : decode cX3_init 48 = .ok (.return_, 1) := by decide +kernel
theorem dX3_makeFrom_0 : decode cX3_makeFrom 0 = .ok (.aload_n 0, 1) := by decide +kernel
theorem dX3_makeFrom_1 : decode cX3_makeFrom 1 = .ok (.aload_n 1, 1) := by decide +kernel
theorem dX3_makeFrom_2 : decode cX3_makeFrom 2 = .ok (.getfield 22, 3) := by decide +kernel
theorem dX3_makeFrom_5 : decode cX3_makeFrom 5 = .ok (.aload_n 0, 1) := by decide +kernel
theorem dX3_makeFrom_6 : decode cX3_makeFrom 6 = .ok (.getfield 11, 3) := by decide +kernel
theorem dX3_makeFrom_9 : decode cX3_makeFrom 9 = .ok (.arraylength, 1) := by decide +kernel
theorem dX3_makeFrom_10 : decode cX3_makeFrom 10 = .ok (.invokestatic 25, 3) := by decide +kernel
theorem dX3_makeFrom_13 : decode cX3_makeFrom 13 = .ok (.putfield 17, 3) := by decide +kernel
theorem dX3_makeFrom_16 : decode cX3_makeFrom 16 = .ok (.iconst 0, 1) := by decide +kernel
theorem dX3_makeFrom_17 : decode cX3_makeFrom 17 = .ok (.istore_n 2, 1) := by decide +kernel
theorem dX3_makeFrom_18 : decode cX3_makeFrom 18 = .ok (.iload_n 2, 1) := by decide +kernel
theorem dX3_makeFrom_19 : decode cX3_makeFrom 19 = .ok (.aload_n 0, 1) := by decide +kernel
theorem dX3_makeFrom_20 : decode cX3_makeFrom 20 = .ok (.getfield 17, 3) := by decide +kernel
theorem dX3_makeFrom_23 : decode cX3_makeFrom 23 = .ok (.if_icmp .ge 78, 3) := by decide +kernel
theorem dX3_makeFrom_26 : decode cX3_makeFrom 26 = .ok (.aload_n 1, 1) := by decide +kernel
theorem dX3_makeFrom_27 : decode cX3_makeFrom 27 = .ok (.iload_n 2, 1) := by decide +kernel
theorem dX3_makeFrom_28 : decode cX3_makeFrom 28 = .ok (.invokevirtual 31, 3) := by decide +kernel
theorem dX3_makeFrom_31 : decode cX3_makeFrom 31 = .ok (.astore_n 3, 1) := by decide +kernel
theorem dX3_makeFrom_32 : decode cX3_makeFrom 32 = .ok (.aload_n 3, 1) := by decide +kernel
theorem dX3_makeFrom_33 : decode cX3_makeFrom 33 = .ok (.ifnull 11, 3) := by decide +kernel
theorem dX3_makeFrom_36 : decode cX3_makeFrom 36 = .ok (.aload_n 1, 1) := by decide +kernel
theorem dX3_makeFrom_37 : decode cX3_makeFrom 37 = .ok (.aload_n 3, 1) := by decide +kernel
theorem dX3_makeFrom_38 : decode cX3_makeFrom 38 = .ok (.invokevirtual 35, 3) := by decide +kernel
theorem dX3_makeFrom_41 : decode cX3_makeFrom 41 = .ok (.ifCond .eq 16, 3) := by decide +kernel
theorem dX3_makeFrom_44 : decode cX3_makeFrom 44 = .ok (.aload_n 0, 1) := by decide +kernel
theorem dX3_makeFrom_45 : decode cX3_makeFrom 45 = .ok (.getfield 11, 3) := by decide +kernel
theorem dX3_makeFrom_48 : decode cX3_makeFrom 48 = .ok (.iload_n 2, 1) := by decide +kernel
theorem dX3_makeFrom_49 : decode cX3_makeFrom 49 = .ok (.aaload, 1) := by decide +kernel
theorem dX3_makeFrom_50 : decode cX3_makeFrom 50 = .ok (.iconst 1, 1) := by decide +kernel
theorem dX3_makeFrom_51 : decode cX3_makeFrom 51 = .ok (.invokevirtual 39, 3) := by decide +kernel
theorem dX3_makeFrom_54 : decode cX3_makeFrom 54 = .ok (.goto 41, 3) := by decide +kernel
theorem dX3_makeFrom_57 : decode cX3_makeFrom 57 = .ok (.aload_n 1, 1) := by decide +kernel
theorem dX3_makeFrom_58 : decode cX3_makeFrom 58 = .ok (.iload_n 2, 1) := by decide +kernel
theorem dX3_makeFrom_59 : decode cX3_makeFrom 59 = .ok (.aload_n 1, 1) := by decide +kernel
theorem dX3_makeFrom_60 : decode cX3_makeFrom 60 = .ok (.getfield 43, 3) := by decide +kernel
theorem dX3_makeFrom_63 : decode cX3_makeFrom 63 = .ok (.iconst 0, 1) := by decide +kernel
theorem dX3_makeFrom_64 : decode cX3_makeFrom 64 = .ok (.invokevirtual 46, 3) := by decide +kernel
theorem dX3_makeFrom_67 : decode cX3_makeFrom 67 = .ok (.iload_n 2, 1) := by decide +kernel
theorem dX3_makeFrom_68 : decode cX3_makeFrom 68 = .ok (.if_icmp .eq 16, 3) := by decide +kernel
theorem dX3_makeFrom_71 : decode cX3_makeFrom 71 = .ok (.aload_n 0, 1) := by decide +kernel
theorem dX3_makeFrom_72 : decode cX3_makeFrom 72 = .ok (.getfield 11, 3) := by decide +kernel
theorem dX3_makeFrom_75 : decode cX3_makeFrom 75 = .ok (.iload_n 2, 1) := by decide +kernel
theorem dX3_makeFrom_76 : decode cX3_makeFrom 76 = .ok (.aaload, 1) := by decide +kernel
theorem dX3_makeFrom_77 : decode cX3_makeFrom 77 = .ok (.iconst 2, 1) := by decide +kernel
theorem dX3_makeFrom_78 : decode cX3_makeFrom 78 = .ok (.invokevirtual 39, 3) := by decide +kernel
theorem dX3_makeFrom_81 : decode cX3_makeFrom 81 = .ok (.goto 14, 3) := by decide +kernel
theorem dX3_makeFrom_84 : decode cX3_makeFrom 84 = .ok (.aload_n 0, 1) := by decide +kernel
theorem dX3_makeFrom_85 : decode cX3_makeFrom 85 = .ok (.getfield 11, 3) := by decide +kernel
theorem dX3_makeFrom_88 : decode cX3_makeFrom 88 = .ok (.iload_n 2, 1) := by decide +kernel
theorem dX3_makeFrom_89 : decode cX3_makeFrom 89 = .ok (.aaload, 1) := by decide +kernel
theorem dX3_makeFrom_90 : decode cX3_makeFrom 90 = .ok (.aload_n 1, 1) := by decide +kernel
theorem dX3_makeFrom_91 : decode cX3_makeFrom 91 = .ok (.aload_n 3, 1) := by decide +kernel
theorem dX3_makeFrom_92 : decode cX3_makeFrom 92 = .ok (.invokevirtual 50, 3) := by decide +kernel
theorem dX3_makeFrom_95 : decode cX3_makeFrom 95 = .ok (.iinc 2 1, 3) := by decide +kernel
theorem dX3_makeFrom_98 : decode cX3_makeFrom 98 = .ok (.goto (-80), 3) := by decide +kernel
theorem dX3_makeFrom_101 : decode cX3_makeFrom 101 = .ok (.return_, 1) := by decide +kernel
theorem dX3_howMany_0 : decode cX3_howMany 0 = .ok (.iconst 0, 1) := by decide +kernel
theorem dX3_howMany_1 : decode cX3_howMany 1 = .ok (.istore_n 2, 1) := by decide +kernel
theorem dX3_howMany_2 : decode cX3_howMany 2 = .ok (.iconst 0, 1) := by decide +kernel
theorem dX3_howMany_3 : decode cX3_howMany 3 = .ok (.istore_n 3, 1) := by decide +kernel
theorem dX3_howMany_4 : decode cX3_howMany 4 = .ok (.iload_n 3, 1) := by decide +kernel
theorem dX3_howMany_5 : decode cX3_howMany 5 = .ok (.aload_n 0, 1) := by decide +kernel
theorem dX3_howMany_6 : decode cX3_howMany 6 = .ok (.getfield 17, 3) := by decide +kernel
theorem dX3_howMany_9 : decode cX3_howMany 9 = .ok (.if_icmp .ge 30, 3) := by decide +kernel
theorem dX3_howMany_12 : decode cX3_howMany 12 = .ok (.iload_n 2, 1) := by decide +kernel
theorem dX3_howMany_13 : decode cX3_howMany 13 = .ok (.aload_n 0, 1) := by decide +kernel
theorem dX3_howMany_14 : decode cX3_howMany 14 = .ok (.getfield 11, 3) := by decide +kernel
theorem dX3_howMany_17 : decode cX3_howMany 17 = .ok (.iload_n 3, 1) := by decide +kernel
theorem dX3_howMany_18 : decode cX3_howMany 18 = .ok (.aaload, 1) := by decide +kernel
theorem dX3_howMany_19 : decode cX3_howMany 19 = .ok (.getfield 54, 3) := by decide +kernel
theorem dX3_howMany_22 : decode cX3_howMany 22 = .ok (.iload_n 1, 1) := by decide +kernel
theorem dX3_howMany_23 : decode cX3_howMany 23 = .ok (.if_icmp .ne 7, 3) := by decide +kernel
theorem dX3_howMany_26 : decode cX3_howMany 26 = .ok (.iconst 1, 1) := by decide +kernel
theorem dX3_howMany_27 : decode cX3_howMany 27 = .ok (.goto 4, 3) := by decide +kernel
theorem dX3_howMany_30 : decode cX3_howMany 30 = .ok (.iconst 0, 1) := by decide +kernel
theorem dX3_howMany_31 : decode cX3_howMany 31 = .ok (.iadd, 1) := by decide +kernel
theorem dX3_howMany_32 : decode cX3_howMany 32 = .ok (.istore_n 2, 1) := by decide +kernel
theorem dX3_howMany_33 : decode cX3_howMany 33 = .ok (.iinc 3 1, 3) := by decide +kernel
theorem dX3_howMany_36 : decode cX3_howMany 36 = .ok (.goto (-32), 3) := by decide +kernel
theorem dX3_howMany_39 : decode cX3_howMany 39 = .ok (.iload_n 2, 1) := by decide +kernel
theorem dX3_howMany_40 : decode cX3_howMany 40 = .ok (.ireturn, 1) := by decide +kernel
theorem dX3_totalLength_0 : decode cX3_totalLength 0 = .ok (.iconst 0, 1) := by decide +kernel
theorem dX3_totalLength_1 : decode cX3_totalLength 1 = .ok (.istore_n 1, 1) := by decide +kernel
theorem dX3_totalLength_2 : decode cX3_totalLength 2 = .ok (.iconst 0, 1) := by decide +kernel
theorem dX3_totalLength_3 : decode cX3_totalLength 3 = .ok (.istore_n 2, 1) := by decide +kernel
theorem dX3_totalLength_4 : decode cX3_totalLength 4 = .ok (.iload_n 2, 1) := by decide +kernel
theorem dX3_totalLength_5 : decode cX3_totalLength 5 = .ok (.aload_n 0, 1) := by decide +kernel
theorem dX3_totalLength_6 : decode cX3_totalLength 6 = .ok (.getfield 17, 3) := by decide +kernel
theorem dX3_totalLength_9 : decode cX3_totalLength 9 = .ok (.if_icmp .ge 37, 3) := by decide +kernel
theorem dX3_totalLength_12 : decode cX3_totalLength 12 = .ok (.iload_n 1, 1) := by decide +kernel
theorem dX3_totalLength_13 : decode cX3_totalLength 13 = .ok (.aload_n 0, 1) := by decide +kernel
theorem dX3_totalLength_14 : decode cX3_totalLength 14 = .ok (.getfield 11, 3) := by decide +kernel
theorem dX3_totalLength_17 : decode cX3_totalLength 17 = .ok (.iload_n 2, 1) := by decide +kernel
theorem dX3_totalLength_18 : decode cX3_totalLength 18 = .ok (.aaload, 1) := by decide +kernel
theorem dX3_totalLength_19 : decode cX3_totalLength 19 = .ok (.getfield 54, 3) := by decide +kernel
theorem dX3_totalLength_22 : decode cX3_totalLength 22 = .ok (.ifCond .ne 15, 3) := by decide +kernel
theorem dX3_totalLength_25 : decode cX3_totalLength 25 = .ok (.aload_n 0, 1) := by decide +kernel
theorem dX3_totalLength_26 : decode cX3_totalLength 26 = .ok (.getfield 11, 3) := by decide +kernel
theorem dX3_totalLength_29 : decode cX3_totalLength 29 = .ok (.iload_n 2, 1) := by decide +kernel
theorem dX3_totalLength_30 : decode cX3_totalLength 30 = .ok (.aaload, 1) := by decide +kernel
theorem dX3_totalLength_31 : decode cX3_totalLength 31 = .ok (.getfield 57, 3) := by decide +kernel
theorem dX3_totalLength_34 : decode cX3_totalLength 34 = .ok (.goto 4, 3) := by decide +kernel
theorem dX3_totalLength_37 : decode cX3_totalLength 37 = .ok (.iconst 0, 1) := by decide +kernel
theorem dX3_totalLength_38 : decode cX3_totalLength 38 = .ok (.iadd, 1) := by decide +kernel
theorem dX3_totalLength_39 : decode cX3_totalLength 39 = .ok (.istore_n 1, 1) := by decide +kernel
theorem dX3_totalLength_40 : decode cX3_totalLength 40 = .ok (.iinc 2 1, 3) := by decide +kernel
theorem dX3_totalLength_43 : decode cX3_totalLength 43 = .ok (.goto (-39), 3) := by decide +kernel
theorem dX3_totalLength_46 : decode cX3_totalLength 46 = .ok (.iload_n 1, 1) := by decide +kernel
theorem dX3_totalLength_47 : decode cX3_totalLength 47 = .ok (.ireturn, 1) := by decide +kernel
theorem dX4_init_0 : decode cX4_init 0 = .ok (.aload_n 0, 1) := by decide +kernel
theorem dX4_init_1 : decode cX4_init 1 = .ok (.invokespecial 1, 3) := by decide +kernel
theorem dX4_init_4 : decode cX4_init 4 = .ok (.aload_n 0, 1) := by decide +kernel
theorem dX4_init_5 : decode cX4_init 5 = .ok (.bipush 32, 2) := by decide +kernel
theorem dX4_init_7 : decode cX4_init 7 = .ok (.putfield 7, 3) := by decide +kernel
theorem dX4_init_10 : decode cX4_init 10 = .ok (.aload_n 0, 1) := by decide +kernel
theorem dX4_init_11 : decode cX4_init 11 = .ok (.iconst 0, 1) := by decide +kernel
theorem dX4_init_12 : decode cX4_init 12 = .ok (.putfield 13, 3) := by decide +kernel
theorem dX4_init_15 : decode cX4_init 15 = .ok (.aload_n 0, 1) := by decide +kernel
theorem dX4_init_16 : decode cX4_init 16 = .ok (.bipush 32, 2) := by decide +kernel
theorem dX4_init_18 : decode cX4_init 18 = .ok (.putfield 17, 3) := by decide +kernel
theorem dX4_init_21 : decode cX4_init 21 = .ok (.aload_n 0, 1) := by decide +kernel
theorem dX4_init_22 : decode cX4_init 22 = .ok (.ldc 20, 2) := by decide +kernel
theorem dX4_init_24 : decode cX4_init 24 = .ok (.putfield 22, 3) := by decide +kernel
theorem dX4_init_27 : decode cX4_init 27 = .ok (.aload_n 0, 1) := by decide +kernel
theorem dX4_init_28 : decode cX4_init 28 = .ok (.ldc 20, 2) := by decide +kernel
theorem dX4_init_30 : decode cX4_init 30 = .ok (.putfield 26, 3) := by decide +kernel
theorem dX4_init_33 : decode cX4_init 33 = .ok (.aload_n 0, 1) := by decide +kernel
theorem dX4_init_34 : decode cX4_init 34 = .ok (.aconst_null, 1) := by decide +kernel
theorem dX4_init_35 : decode cX4_init 35 = .ok (.putfield 29, 3) := by decide +kernel
theorem dX4_init_38 : decode cX4_init 38 = .ok (.aload_n 0, 1) := by decide +kernel
theorem dX4_init_39 : decode cX4_init 39 = .ok (.iconst 0, 1) := by decide +kernel
theorem dX4_init_40 : decode cX4_init 40 = .ok (.putfield 33, 3) := by decide +kernel
theorem dX4_init_43 : decode cX4_init 43 = .ok (.aload_n 0, 1) := by decide +kernel
theorem dX4_init_44 : decode cX4_init 44 = .ok (.iload_n 1, 1) := by decide +kernel
theorem dX4_init_45 : decode cX4_init 45 = .ok (.putfield 36, 3) := by decide +kernel
theorem dX4_init_48 : decode cX4_init 48 = .ok (.aload_n 0, 1) := by decide +kernel
theorem dX4_init_49 : decode cX4_init 49 = .ok (.iload_n 2, 1) := by decide +kernel
theorem dX4_init_50 : decode cX4_init 50 = .ok (.putfield 39, 3) := by decide +kernel
theorem dX4_init_53 : decode cX4_init 53 = .ok (.aload_n 0, 1) := by decide +kernel
theorem dX4_init_54 : decode cX4_init 54 = .ok (.iload_n 3, 1) := by decide +kernel
theorem dX4_init_55 : decode cX4_init 55 = .ok (.putfield 42, 3) := by decide +kernel
theorem dX4_init_58 : decode cX4_init 58 = .ok (.aload_n 0, 1) := by decide +kernel
theorem dX4_init_59 : decode cX4_init 59 = .ok (.iload 4, 2) := by decide +kernel
theorem dX4_init_61 : decode cX4_init 61 = .ok (.putfield 45, 3) := by decide +kernel
theorem dX4_init_64 : decode cX4_init 64 = .ok (.return_, 1) := by decide +kernel
theorem dX4_isMetBy_0 : decode cX4_isMetBy 0 = .ok (.aload_n 0, 1) := by decide +kernel
theorem dX4_isMetBy_1 : decode cX4_isMetBy 1 = .ok (.getfield 29, 3) := by decide +kernel
theorem dX4_isMetBy_4 : decode cX4_isMetBy 4 = .ok (.astore_n 2, 1) := by decide +kernel
theorem dX4_isMetBy_5 : decode cX4_isMetBy 5 = .ok (.aload_n 2, 1) := by decide +kernel
theorem dX4_isMetBy_6 : decode cX4_isMetBy 6 = .ok (.ifnull 21, 3) := by decide +kernel
theorem dX4_isMetBy_9 : decode cX4_isMetBy 9 = .ok (.aload_n 2, 1) := by decide +kernel
theorem dX4_isMetBy_10 : decode cX4_isMetBy 10 = .ok (.aload_n 1, 1) := by decide +kernel
theorem dX4_isMetBy_11 : decode cX4_isMetBy 11 = .ok (.invokevirtual 48, 3) := by decide +kernel
theorem dX4_isMetBy_14 : decode cX4_isMetBy 14 = .ok (.ifCond .ne 5, 3) := by decide +kernel
theorem dX4_isMetBy_17 : decode cX4_isMetBy 17 = .ok (.iconst 0, 1) := by decide +kernel
theorem dX4_isMetBy_18 : decode cX4_isMetBy 18 = .ok (.ireturn, 1) := by decide +kernel
theorem dX4_isMetBy_19 : decode cX4_isMetBy 19 = .ok (.aload_n 2, 1) := by decide +kernel
theorem dX4_isMetBy_20 : decode cX4_isMetBy 20 = .ok (.getfield 54, 3) := by decide +kernel
theorem dX4_isMetBy_23 : decode cX4_isMetBy 23 = .ok (.astore_n 2, 1) := by decide +kernel
theorem dX4_isMetBy_24 : decode cX4_isMetBy 24 = .ok (.goto (-19), 3) := by decide +kernel
theorem dX4_isMetBy_27 : decode cX4_isMetBy 27 = .ok (.iconst 1, 1) := by decide +kernel
theorem dX4_isMetBy_28 : decode cX4_isMetBy 28 = .ok (.ireturn, 1) := by decide +kernel
theorem dX5_init_0 : decode cX5_init 0 = .ok (.aload_n 0, 1) := by decide +kernel
theorem dX5_init_1 : decode cX5_init 1 = .ok (.invokespecial 3, 3) := by decide +kernel
theorem dX5_init_4 : decode cX5_init 4 = .ok (.aload_n 0, 1) := by decide +kernel
theorem dX5_init_5 : decode cX5_init 5 = .ok (.bipush 20, 2) := by decide +kernel
theorem dX5_init_7 : decode cX5_init 7 = .ok (.anewarray 9, 3) := by decide +kernel
theorem dX5_init_10 : decode cX5_init 10 = .ok (.putfield 11, 3) := by decide +kernel
theorem dX5_init_13 : decode cX5_init 13 = .ok (.aload_n 0, 1) := by decide +kernel
theorem dX5_init_14 : decode cX5_init 14 = .ok (.invokevirtual 17, 3) := by decide +kernel
theorem dX5_init_17 : decode cX5_init 17 = .ok (.return_, 1) := by decide +kernel
theorem dX5_reset_0 : decode cX5_reset 0 = .ok (.aload_n 0, 1) := by decide +kernel
theorem dX5_reset_1 : decode cX5_reset 1 = .ok (.iconst 0, 1) := by decide +kernel
theorem dX5_reset_2 : decode cX5_reset 2 = .ok (.putfield 20, 3) := by decide +kernel
theorem dX5_reset_5 : decode cX5_reset 5 = .ok (.aload_n 0, 1) := by decide +kernel
theorem dX5_reset_6 : decode cX5_reset 6 = .ok (.new 24, 3) := by decide +kernel
theorem dX5_reset_9 : decode cX5_reset 9 = .ok (.dup, 1) := by decide +kernel
theorem dX5_reset_10 : decode cX5_reset 10 = .ok (.iconst 0, 1) := by decide +kernel
theorem dX5_reset_11 : decode cX5_reset 11 = .ok (.invokespecial 26, 3) := by decide +kernel
theorem dX5_reset_14 : decode cX5_reset 14 = .ok (.putfield 29, 3) := by decide +kernel
theorem dX5_reset_17 : decode cX5_reset 17 = .ok (.aload_n 0, 1) := by decide +kernel
theorem dX5_reset_18 : decode cX5_reset 18 = .ok (.new 33, 3) := by decide +kernel
theorem dX5_reset_21 : decode cX5_reset 21 = .ok (.dup, 1) := by decide +kernel
theorem dX5_reset_22 : decode cX5_reset 22 = .ok (.ldc 35, 2) := by decide +kernel
theorem dX5_reset_24 : decode cX5_reset 24 = .ok (.invokespecial 37, 3) := by decide +kernel
theorem dX5_reset_27 : decode cX5_reset 27 = .ok (.putfield 40, 3) := by decide +kernel
theorem dX5_reset_30 : decode cX5_reset 30 = .ok (.aload_n 0, 1) := by decide +kernel
theorem dX5_reset_31 : decode cX5_reset 31 = .ok (.iconst 0, 1) := by decide +kernel
theorem dX5_reset_32 : decode cX5_reset 32 = .ok (.putfield 44, 3) := by decide +kernel
theorem dX5_reset_35 : decode cX5_reset 35 = .ok (.aload_n 0, 1) := by decide +kernel
theorem dX5_reset_36 : decode cX5_reset 36 = .ok (.iconst 0, 1) := by decide +kernel
theorem dX5_reset_37 : decode cX5_reset 37 = .ok (.putfield 47, 3) := by decide +kernel
theorem dX5_reset_40 : decode cX5_reset 40 = .ok (.aload_n 0, 1) := by decide +kernel
theorem dX5_reset_41 : decode cX5_reset 41 = .ok (.iconst 0, 1) := by decide +kernel
theorem dX5_reset_42 : decode cX5_reset 42 = .ok (.putfield 50, 3) := by decide +kernel
theorem dX5_reset_45 : decode cX5_reset 45 = .ok (.aload_n 0, 1) := by decide +kernel
theorem dX5_reset_46 : decode cX5_reset 46 = .ok (.bipush 100, 2) := by decide +kernel
theorem dX5_reset_48 : decode cX5_reset 48 = .ok (.putfield 53, 3) := by decide +kernel
theorem dX5_reset_51 : decode cX5_reset 51 = .ok (.return_, 1) := by decide +kernel
theorem dX5_copyFrom_0 : decode cX5_copyFrom 0 = .ok (.iconst 0, 1) := by decide +kernel
theorem dX5_copyFrom_1 : decode cX5_copyFrom 1 = .ok (.istore_n 2, 1) := by decide +kernel
theorem dX5_copyFrom_2 : decode cX5_copyFrom 2 = .ok (.iload_n 2, 1) := by decide +kernel
theorem dX5_copyFrom_3 : decode cX5_copyFrom 3 = .ok (.bipush 20, 2) := by decide +kernel
theorem dX5_copyFrom_5 : decode cX5_copyFrom 5 = .ok (.if_icmp .ge 21, 3) := by decide +kernel
theorem dX5_copyFrom_8 : decode cX5_copyFrom 8 = .ok (.aload_n 0, 1) := by decide +kernel
theorem dX5_copyFrom_9 : decode cX5_copyFrom 9 = .ok (.getfield 11, 3) := by decide +kernel
theorem dX5_copyFrom_12 : decode cX5_copyFrom 12 = .ok (.iload_n 2, 1) := by decide +kernel
theorem dX5_copyFrom_13 : decode cX5_copyFrom 13 = .ok (.aload_n 1, 1) := by decide +kernel
theorem dX5_copyFrom_14 : decode cX5_copyFrom 14 = .ok (.getfield 11, 3) := by decide +kernel
theorem dX5_copyFrom_17 : decode cX5_copyFrom 17 = .ok (.iload_n 2, 1) := by decide +kernel
theorem dX5_copyFrom_18 : decode cX5_copyFrom 18 = .ok (.aaload, 1) := by decide +kernel
theorem dX5_copyFrom_19 : decode cX5_copyFrom 19 = .ok (.aastore, 1) := by decide +kernel
theorem dX5_copyFrom_20 : decode cX5_copyFrom 20 = .ok (.iinc 2 1, 3) := by decide +kernel
theorem dX5_copyFrom_23 : decode cX5_copyFrom 23 = .ok (.goto (-21), 3) := by decide +kernel
theorem dX5_copyFrom_26 : decode cX5_copyFrom 26 = .ok (.aload_n 0, 1) := by decide +kernel
theorem dX5_copyFrom_27 : decode cX5_copyFrom 27 = .ok (.aload_n 1, 1) := by decide +kernel
theorem dX5_copyFrom_28 : decode cX5_copyFrom 28 = .ok (.getfield 20, 3) := by decide +kernel
theorem dX5_copyFrom_31 : decode cX5_copyFrom 31 = .ok (.putfield 20, 3) := by decide +kernel
theorem dX5_copyFrom_34 : decode cX5_copyFrom 34 = .ok (.aload_n 0, 1) := by decide +kernel
theorem dX5_copyFrom_35 : decode cX5_copyFrom 35 = .ok (.aload_n 1, 1) := by decide +kernel
theorem dX5_copyFrom_36 : decode cX5_copyFrom 36 = .ok (.getfield 29, 3) := by decide +kernel
theorem dX5_copyFrom_39 : decode cX5_copyFrom 39 = .ok (.putfield 29, 3) := by decide +kernel
theorem dX5_copyFrom_42 : decode cX5_copyFrom 42 = .ok (.aload_n 0, 1) := by decide +kernel
theorem dX5_copyFrom_43 : decode cX5_copyFrom 43 = .ok (.aload_n 1, 1) := by decide +kernel
theorem dX5_copyFrom_44 : decode cX5_copyFrom 44 = .ok (.getfield 40, 3) := by decide +kernel
theorem dX5_copyFrom_47 : decode cX5_copyFrom 47 = .ok (.putfield 40, 3) := by decide +kernel
theorem dX5_copyFrom_50 : decode cX5_copyFrom 50 = .ok (.aload_n 0, 1) := by decide +kernel
theorem dX5_copyFrom_51 : decode cX5_copyFrom 51 = .ok (.aload_n 1, 1) := by decide +kernel
theorem dX5_copyFrom_52 : decode cX5_copyFrom 52 = .ok (.getfield 44, 3) := by decide +kernel
theorem dX5_copyFrom_55 : decode cX5_copyFrom 55 = .ok (.putfield 44, 3) := by decide +kernel
theorem dX5_copyFrom_58 : decode cX5_copyFrom 58 = .ok (.aload_n 0, 1) := by decide +kernel
theorem dX5_copyFrom_59 : decode cX5_copyFrom 59 = .ok (.aload_n 1, 1) := by decide +kernel
theorem dX5_copyFrom_60 : decode cX5_copyFrom 60 = .ok (.getfield 47, 3) := by decide +kernel
theorem dX5_copyFrom_63 : decode cX5_copyFrom 63 = .ok (.putfield 47, 3) := by decide +kernel
theorem dX5_copyFrom_66 : decode cX5_copyFrom 66 = .ok (.aload_n 0, 1) := by decide +kernel
theorem dX5_copyFrom_67 : decode cX5_copyFrom 67 = .ok (.aload_n 1, 1) := by decide +kernel
theorem dX5_copyFrom_68 : decode cX5_copyFrom 68 = .ok (.getfield 50, 3) := by decide +kernel
theorem dX5_copyFrom_71 : decode cX5_copyFrom 71 = .ok (.putfield 50, 3) := by decide +kernel
theorem dX5_copyFrom_74 : decode cX5_copyFrom 74 = .ok (.aload_n 0, 1) := by decide +kernel
theorem dX5_copyFrom_75 : decode cX5_copyFrom 75 = .ok (.aload_n 1, 1) := by decide +kernel
theorem dX5_copyFrom_76 : decode cX5_copyFrom 76 = .ok (.getfield 53, 3) := by decide +kernel
theorem dX5_copyFrom_79 : decode cX5_copyFrom 79 = .ok (.putfield 53, 3) := by decide +kernel
theorem dX5_copyFrom_82 : decode cX5_copyFrom 82 = .ok (.return_, 1) := by decide +kernel
theorem dX5_entryAt_0 : decode cX5_entryAt 0 = .ok (.iload_n 1, 1) := by decide +kernel
theorem dX5_entryAt_1 : decode cX5_entryAt 1 = .ok (.ifCond .lt 20, 3) := by decide +kernel
theorem dX5_entryAt_4 : decode cX5_entryAt 4 = .ok (.iload_n 1, 1) := by decide +kernel
theorem dX5_entryAt_5 : decode cX5_entryAt 5 = .ok (.aload_n 0, 1) := by decide +kernel
theorem dX5_entryAt_6 : decode cX5_entryAt 6 = .ok (.getfield 20, 3) := by decide +kernel
theorem dX5_entryAt_9 : decode cX5_entryAt 9 = .ok (.if_icmp .ge 12, 3) := by decide +kernel
theorem dX5_entryAt_12 : decode cX5_entryAt 12 = .ok (.aload_n 0, 1) := by decide +kernel
theorem dX5_entryAt_13 : decode cX5_entryAt 13 = .ok (.getfield 11, 3) := by decide +kernel
theorem dX5_entryAt_16 : decode cX5_entryAt 16 = .ok (.iload_n 1, 1) := by decide +kernel
theorem dX5_entryAt_17 : decode cX5_entryAt 17 = .ok (.aaload, 1) := by decide +kernel
theorem dX5_entryAt_18 : decode cX5_entryAt 18 = .ok (.goto 4, 3) := by decide +kernel
theorem dX5_entryAt_21 : decode cX5_entryAt 21 = .ok (.aconst_null, 1) := by decide +kernel
theorem dX5_entryAt_22 : decode cX5_entryAt 22 = .ok (.areturn, 1) := by decide +kernel
theorem dX5_addLast_0 : decode cX5_addLast 0 = .ok (.aload_n 0, 1) := by decide +kernel
theorem dX5_addLast_1 : decode cX5_addLast 1 = .ok (.getfield 20, 3) := by decide +kernel
theorem dX5_addLast_4 : decode cX5_addLast 4 = .ok (.aload_n 0, 1) := by decide +kernel
theorem dX5_addLast_5 : decode cX5_addLast 5 = .ok (.getfield 11, 3) := by decide +kernel
theorem dX5_addLast_8 : decode cX5_addLast 8 = .ok (.arraylength, 1) := by decide +kernel
theorem dX5_addLast_9 : decode cX5_addLast 9 = .ok (.if_icmp .ge 23, 3) := by decide +kernel
theorem dX5_addLast_12 : decode cX5_addLast 12 = .ok (.aload_n 0, 1) := by decide +kernel
theorem dX5_addLast_13 : decode cX5_addLast 13 = .ok (.getfield 11, 3) := by decide +kernel
theorem dX5_addLast_16 : decode cX5_addLast 16 = .ok (.aload_n 0, 1) := by decide +kernel
theorem dX5_addLast_17 : decode cX5_addLast 17 = .ok (.getfield 20, 3) := by decide +kernel
theorem dX5_addLast_20 : decode cX5_addLast 20 = .ok (.aload_n 1, 1) := by decide +kernel
theorem dX5_addLast_21 : decode cX5_addLast 21 = .ok (.aastore, 1) := by decide +kernel
theorem dX5_addLast_22 : decode cX5_addLast 22 = .ok (.aload_n 0, 1) := by decide +kernel
theorem dX5_addLast_23 : decode cX5_addLast 23 = .ok (.dup, 1) := by decide +kernel
theorem dX5_addLast_24 : decode cX5_addLast 24 = .ok (.getfield 20, 3) := by decide +kernel
theorem dX5_addLast_27 : decode cX5_addLast 27 = .ok (.iconst 1, 1) := by decide +kernel
theorem dX5_addLast_28 : decode cX5_addLast 28 = .ok (.iadd, 1) := by decide +kernel
theorem dX5_addLast_29 : decode cX5_addLast 29 = .ok (.putfield 20, 3) := by decide +kernel
theorem dX5_addLast_32 : decode cX5_addLast 32 = .ok (.return_, 1) := by decide +kernel
theorem dX5_replace_0 : decode cX5_replace 0 = .ok (.iload_n 1, 1) := by decide +kernel
theorem dX5_replace_1 : decode cX5_replace 1 = .ok (.ifCond .lt 18, 3) := by decide +kernel
theorem dX5_replace_4 : decode cX5_replace 4 = .ok (.iload_n 1, 1) := by decide +kernel
theorem dX5_replace_5 : decode cX5_replace 5 = .ok (.aload_n 0, 1) := by decide +kernel
theorem dX5_replace_6 : decode cX5_replace 6 = .ok (.getfield 20, 3) := by decide +kernel
theorem dX5_replace_9 : decode cX5_replace 9 = .ok (.if_icmp .ge 10, 3) := by decide +kernel
theorem dX5_replace_12 : decode cX5_replace 12 = .ok (.aload_n 0, 1) := by decide +kernel
theorem dX5_replace_13 : decode cX5_replace 13 = .ok (.getfield 11, 3) := by decide +kernel
theorem dX5_replace_16 : decode cX5_replace 16 = .ok (.iload_n 1, 1) := by decide +kernel
theorem dX5_replace_17 : decode cX5_replace 17 = .ok (.aload_n 2, 1) := by decide +kernel
theorem dX5_replace_18 : decode cX5_replace 18 = .ok (.aastore, 1) := by decide +kernel
theorem dX5_replace_19 : decode cX5_replace 19 = .ok (.return_, 1) := by decide +kernel
theorem dX5_removeAt_0 : decode cX5_removeAt 0 = .ok (.iload_n 1, 1) := by decide +kernel
theorem dX5_removeAt_1 : decode cX5_removeAt 1 = .ok (.ifCond .lt 32, 3) := by decide +kernel
theorem dX5_removeAt_4 : decode cX5_removeAt 4 = .ok (.iload_n 1, 1) := by decide +kernel
theorem dX5_removeAt_5 : decode cX5_removeAt 5 = .ok (.aload_n 0, 1) := by decide +kernel
theorem dX5_removeAt_6 : decode cX5_removeAt 6 = .ok (.getfield 20, 3) := by decide +kernel
theorem dX5_removeAt_9 : decode cX5_removeAt 9 = .ok (.if_icmp .ge 24, 3) := by decide +kernel
theorem dX5_removeAt_12 : decode cX5_removeAt 12 = .ok (.aload_n 0, 1) := by decide +kernel
theorem dX5_removeAt_13 : decode cX5_removeAt 13 = .ok (.iload_n 1, 1) := by decide +kernel
theorem dX5_removeAt_14 : decode cX5_removeAt 14 = .ok (.aload_n 0, 1) := by decide +kernel
theorem dX5_removeAt_15 : decode cX5_removeAt 15 = .ok (.getfield 20, 3) := by decide +kernel
theorem dX5_removeAt_18 : decode cX5_removeAt 18 = .ok (.iconst 1, 1) := by decide +kernel
theorem dX5_removeAt_19 : decode cX5_removeAt 19 = .ok (.isub, 1) := by decide +kernel
theorem dX5_removeAt_20 : decode cX5_removeAt 20 = .ok (.invokevirtual 56, 3) := by decide +kernel
theorem dX5_removeAt_23 : decode cX5_removeAt 23 = .ok (.aload_n 0, 1) := by decide +kernel
theorem dX5_removeAt_24 : decode cX5_removeAt 24 = .ok (.dup, 1) := by decide +kernel
theorem dX5_removeAt_25 : decode cX5_removeAt 25 = .ok (.getfield 20, 3) := by decide +kernel
theorem dX5_removeAt_28 : decode cX5_removeAt 28 = .ok (.iconst 1, 1) := by decide +kernel
theorem dX5_removeAt_29 : decode cX5_removeAt 29 = .ok (.isub, 1) := by decide +kernel
theorem dX5_removeAt_30 : decode cX5_removeAt 30 = .ok (.putfield 20, 3) := by decide +kernel
theorem dX5_removeAt_33 : decode cX5_removeAt 33 = .ok (.return_, 1) := by decide +kernel
theorem dX5_moveTo_0 : decode cX5_moveTo 0 = .ok (.iload_n 1, 1) := by decide +kernel
theorem dX5_moveTo_1 : decode cX5_moveTo 1 = .ok (.ifCond .lt 23, 3) := by decide +kernel
theorem dX5_moveTo_4 : decode cX5_moveTo 4 = .ok (.iload_n 1, 1) := by decide +kernel
theorem dX5_moveTo_5 : decode cX5_moveTo 5 = .ok (.aload_n 0, 1) := by decide +kernel
theorem dX5_moveTo_6 : decode cX5_moveTo 6 = .ok (.getfield 20, 3) := by decide +kernel
theorem dX5_moveTo_9 : decode cX5_moveTo 9 = .ok (.if_icmp .ge 15, 3) := by decide +kernel
theorem dX5_moveTo_12 : decode cX5_moveTo 12 = .ok (.iload_n 2, 1) := by decide +kernel
theorem dX5_moveTo_13 : decode cX5_moveTo 13 = .ok (.ifCond .lt 11, 3) := by decide +kernel
theorem dX5_moveTo_16 : decode cX5_moveTo 16 = .ok (.iload_n 2, 1) := by decide +kernel
theorem dX5_moveTo_17 : decode cX5_moveTo 17 = .ok (.aload_n 0, 1) := by decide +kernel
theorem dX5_moveTo_18 : decode cX5_moveTo 18 = .ok (.getfield 20, 3) := by decide +kernel
theorem dX5_moveTo_21 : decode cX5_moveTo 21 = .ok (.if_icmp .lt 4, 3) := by decide +kernel
theorem dX5_moveTo_24 : decode cX5_moveTo 24 = .ok (.return_, 1) := by decide +kernel
theorem dX5_moveTo_25 : decode cX5_moveTo 25 = .ok (.aload_n 0, 1) := by decide +kernel
theorem dX5_moveTo_26 : decode cX5_moveTo 26 = .ok (.getfield 11, 3) := by decide +kernel
theorem dX5_moveTo_29 : decode cX5_moveTo 29 = .ok (.iload_n 1, 1) := by decide +kernel
theorem dX5_moveTo_30 : decode cX5_moveTo 30 = .ok (.aaload, 1) := by decide +kernel
theorem dX5_moveTo_31 : decode cX5_moveTo 31 = .ok (.astore_n 3, 1) := by decide +kernel
theorem dX5_moveTo_32 : decode cX5_moveTo 32 = .ok (.iload_n 1, 1) := by decide +kernel
theorem dX5_moveTo_33 : decode cX5_moveTo 33 = .ok (.istore 4, 2) := by decide +kernel
theorem dX5_moveTo_35 : decode cX5_moveTo 35 = .ok (.iload 4, 2) := by decide +kernel
theorem dX5_moveTo_37 : decode cX5_moveTo 37 = .ok (.iload_n 2, 1) := by decide +kernel
theorem dX5_moveTo_38 : decode cX5_moveTo 38 = .ok (.if_icmp .ge 25, 3) := by decide +kernel
theorem dX5_moveTo_41 : decode cX5_moveTo 41 = .ok (.aload_n 0, 1) := by decide +kernel
theorem dX5_moveTo_42 : decode cX5_moveTo 42 = .ok (.getfield 11, 3) := by decide +kernel
theorem dX5_moveTo_45 : decode cX5_moveTo 45 = .ok (.iload 4, 2) := by decide +kernel
theorem dX5_moveTo_47 : decode cX5_moveTo 47 = .ok (.aload_n 0, 1) := by decide +kernel
theorem dX5_moveTo_48 : decode cX5_moveTo 48 = .ok (.getfield 11, 3) := by decide +kernel
theorem dX5_moveTo_51 : decode cX5_moveTo 51 = .ok (.iload 4, 2) := by decide +kernel
theorem dX5_moveTo_53 : decode cX5_moveTo 53 = .ok (.iconst 1, 1) := by decide +kernel
theorem dX5_moveTo_54 : decode cX5_moveTo 54 = .ok (.iadd, 1) := by decide +kernel
theorem dX5_moveTo_55 : decode cX5_moveTo 55 = .ok (.aaload, 1) := by decide +kernel
theorem dX5_moveTo_56 : decode cX5_moveTo 56 = .ok (.aastore, 1) := by decide +kernel
theorem dX5_moveTo_57 : decode cX5_moveTo 57 = .ok (.iinc 4 1, 3) := by decide +kernel
theorem dX5_moveTo_60 : decode cX5_moveTo 60 = .ok (.goto (-25), 3) := by decide +kernel
theorem dX5_moveTo_63 : decode cX5_moveTo 63 = .ok (.iload_n 1, 1) := by decide +kernel
theorem dX5_moveTo_64 : decode cX5_moveTo 64 = .ok (.istore 4, 2) := by decide +kernel
theorem dX5_moveTo_66 : decode cX5_moveTo 66 = .ok (.iload 4, 2) := by decide +kernel
theorem dX5_moveTo_68 : decode cX5_moveTo 68 = .ok (.iload_n 2, 1) := by decide +kernel
theorem dX5_moveTo_69 : decode cX5_moveTo 69 = .ok (.if_icmp .le 25, 3) := by decide +kernel
theorem dX5_moveTo_72 : decode cX5_moveTo 72 = .ok (.aload_n 0, 1) := by decide +kernel
theorem dX5_moveTo_73 : decode cX5_moveTo 73 = .ok (.getfield 11, 3) := by decide +kernel
theorem dX5_moveTo_76 : decode cX5_moveTo 76 = .ok (.iload 4, 2) := by decide +kernel
theorem dX5_moveTo_78 : decode cX5_moveTo 78 = .ok (.aload_n 0, 1) := by decide +kernel
theorem dX5_moveTo_79 : decode cX5_moveTo 79 = .ok (.getfield 11, 3) := by decide +kernel
theorem dX5_moveTo_82 : decode cX5_moveTo 82 = .ok (.iload 4, 2) := by decide +kernel
theorem dX5_moveTo_84 : decode cX5_moveTo 84 = .ok (.iconst 1, 1) := by decide +kernel
theorem dX5_moveTo_85 : decode cX5_moveTo 85 = .ok (.isub, 1) := by decide +kernel
theorem dX5_moveTo_86 : decode cX5_moveTo 86 = .ok (.aaload, 1) := by decide +kernel
theorem dX5_moveTo_87 : decode cX5_moveTo 87 = .ok (.aastore, 1) := by decide +kernel
theorem dX5_moveTo_88 : decode cX5_moveTo 88 = .ok (.iinc 4 (-1), 3) := by decide +kernel
theorem dX5_moveTo_91 : decode cX5_moveTo 91 = .ok (.goto (-25), 3) := by decide +kernel
theorem dX5_moveTo_94 : decode cX5_moveTo 94 = .ok (.aload_n 0, 1) := by decide +kernel
theorem dX5_moveTo_95 : decode cX5_moveTo 95 = .ok (.getfield 11, 3) := by decide +kernel
theorem dX5_moveTo_98 : decode cX5_moveTo 98 = .ok (.iload_n 2, 1) := by decide +kernel
theorem dX5_moveTo_99 : decode cX5_moveTo 99 = .ok (.aload_n 3, 1) := by decide +kernel
theorem dX5_moveTo_100 : decode cX5_moveTo 100 = .ok (.aastore, 1) := by decide +kernel
theorem dX5_moveTo_101 : decode cX5_moveTo 101 = .ok (.return_, 1) := by decide +kernel
theorem dX5_sortBy_0 : decode cX5_sortBy 0 = .ok (.aload_n 0, 1) := by decide +kernel
theorem dX5_sortBy_1 : decode cX5_sortBy 1 = .ok (.getfield 20, 3) := by decide +kernel
theorem dX5_sortBy_4 : decode cX5_sortBy 4 = .ok (.aload_n 3, 1) := by decide +kernel
theorem dX5_sortBy_5 : decode cX5_sortBy 5 = .ok (.arraylength, 1) := by decide +kernel
theorem dX5_sortBy_6 : decode cX5_sortBy 6 = .ok (.invokestatic 60, 3) := by decide +kernel
theorem dX5_sortBy_9 : decode cX5_sortBy 9 = .ok (.istore 4, 2) := by decide +kernel
theorem dX5_sortBy_11 : decode cX5_sortBy 11 = .ok (.iconst 0, 1) := by decide +kernel
theorem dX5_sortBy_12 : decode cX5_sortBy 12 = .ok (.istore 5, 2) := by decide +kernel
theorem dX5_sortBy_14 : decode cX5_sortBy 14 = .ok (.iload 5, 2) := by decide +kernel
theorem dX5_sortBy_16 : decode cX5_sortBy 16 = .ok (.iload 4, 2) := by decide +kernel
theorem dX5_sortBy_18 : decode cX5_sortBy 18 = .ok (.if_icmp .ge 99, 3) := by decide +kernel
theorem dX5_sortBy_21 : decode cX5_sortBy 21 = .ok (.aload_n 0, 1) := by decide +kernel
theorem dX5_sortBy_22 : decode cX5_sortBy 22 = .ok (.iload 5, 2) := by decide +kernel
theorem dX5_sortBy_24 : decode cX5_sortBy 24 = .ok (.invokevirtual 66, 3) := by decide +kernel
theorem dX5_sortBy_27 : decode cX5_sortBy 27 = .ok (.astore 6, 2) := by decide +kernel
theorem dX5_sortBy_29 : decode cX5_sortBy 29 = .ok (.iload 5, 2) := by decide +kernel
theorem dX5_sortBy_31 : decode cX5_sortBy 31 = .ok (.istore 7, 2) := by decide +kernel
theorem dX5_sortBy_33 : decode cX5_sortBy 33 = .ok (.iload 5, 2) := by decide +kernel
theorem dX5_sortBy_35 : decode cX5_sortBy 35 = .ok (.iconst 1, 1) := by decide +kernel
theorem dX5_sortBy_36 : decode cX5_sortBy 36 = .ok (.isub, 1) := by decide +kernel
theorem dX5_sortBy_37 : decode cX5_sortBy 37 = .ok (.istore 8, 2) := by decide +kernel
theorem dX5_sortBy_39 : decode cX5_sortBy 39 = .ok (.iload 8, 2) := by decide +kernel
theorem dX5_sortBy_41 : decode cX5_sortBy 41 = .ok (.ifCond .lt 55, 3) := by decide +kernel
theorem dX5_sortBy_44 : decode cX5_sortBy 44 = .ok (.aload 6, 2) := by decide +kernel
theorem dX5_sortBy_46 : decode cX5_sortBy 46 = .ok (.aload_n 0, 1) := by decide +kernel
theorem dX5_sortBy_47 : decode cX5_sortBy 47 = .ok (.iload 8, 2) := by decide +kernel
theorem dX5_sortBy_49 : decode cX5_sortBy 49 = .ok (.invokevirtual 66, 3) := by decide +kernel
theorem dX5_sortBy_52 : decode cX5_sortBy 52 = .ok (.iload_n 1, 1) := by decide +kernel
theorem dX5_sortBy_53 : decode cX5_sortBy 53 = .ok (.iload_n 2, 1) := by decide +kernel
theorem dX5_sortBy_54 : decode cX5_sortBy 54 = .ok (.invokestatic 70, 3) := by decide +kernel
theorem dX5_sortBy_57 : decode cX5_sortBy 57 = .ok (.ifCond .eq 39, 3) := by decide +kernel
theorem dX5_sortBy_60 : decode cX5_sortBy 60 = .ok (.aload_n 0, 1) := by decide +kernel
theorem dX5_sortBy_61 : decode cX5_sortBy 61 = .ok (.getfield 11, 3) := by decide +kernel
theorem dX5_sortBy_64 : decode cX5_sortBy 64 = .ok (.iload 8, 2) := by decide +kernel
theorem dX5_sortBy_66 : decode cX5_sortBy 66 = .ok (.iconst 1, 1) := by decide +kernel
theorem dX5_sortBy_67 : decode cX5_sortBy 67 = .ok (.iadd, 1) := by decide +kernel
theorem dX5_sortBy_68 : decode cX5_sortBy 68 = .ok (.aload_n 0, 1) := by decide +kernel
theorem dX5_sortBy_69 : decode cX5_sortBy 69 = .ok (.getfield 11, 3) := by decide +kernel
theorem dX5_sortBy_72 : decode cX5_sortBy 72 = .ok (.iload 8, 2) := by decide +kernel
theorem dX5_sortBy_74 : decode cX5_sortBy 74 = .ok (.aaload, 1) := by decide +kernel
theorem dX5_sortBy_75 : decode cX5_sortBy 75 = .ok (.aastore, 1) := by decide +kernel
theorem dX5_sortBy_76 : decode cX5_sortBy 76 = .ok (.aload_n 3, 1) := by decide +kernel
theorem dX5_sortBy_77 : decode cX5_sortBy 77 = .ok (.iload 8, 2) := by decide +kernel
theorem dX5_sortBy_79 : decode cX5_sortBy 79 = .ok (.iconst 1, 1) := by decide +kernel
theorem dX5_sortBy_80 : decode cX5_sortBy 80 = .ok (.iadd, 1) := by decide +kernel
theorem dX5_sortBy_81 : decode cX5_sortBy 81 = .ok (.aload_n 3, 1) := by decide +kernel
theorem dX5_sortBy_82 : decode cX5_sortBy 82 = .ok (.iload 8, 2) := by decide +kernel
theorem dX5_sortBy_84 : decode cX5_sortBy 84 = .ok (.iaload, 1) := by decide +kernel
theorem dX5_sortBy_85 : decode cX5_sortBy 85 = .ok (.iastore, 1) := by decide +kernel
theorem dX5_sortBy_86 : decode cX5_sortBy 86 = .ok (.iload 8, 2) := by decide +kernel
theorem dX5_sortBy_88 : decode cX5_sortBy 88 = .ok (.istore 7, 2) := by decide +kernel
theorem dX5_sortBy_90 : decode cX5_sortBy 90 = .ok (.iinc 8 (-1), 3) := by decide +kernel
theorem dX5_sortBy_93 : decode cX5_sortBy 93 = .ok (.goto (-54), 3) := by decide +kernel
theorem dX5_sortBy_96 : decode cX5_sortBy 96 = .ok (.aload_n 0, 1) := by decide +kernel
theorem dX5_sortBy_97 : decode cX5_sortBy 97 = .ok (.getfield 11, 3) := by decide +kernel
theorem dX5_sortBy_100 : decode cX5_sortBy 100 = .ok (.iload 7, 2) := by decide +kernel
theorem dX5_sortBy_102 : decode cX5_sortBy 102 = .ok (.aload 6, 2) := by decide +kernel
theorem dX5_sortBy_104 : decode cX5_sortBy 104 = .ok (.aastore, 1) := by decide +kernel
theorem dX5_sortBy_105 : decode cX5_sortBy 105 = .ok (.aload_n 3, 1) := by decide +kernel
theorem dX5_sortBy_106 : decode cX5_sortBy 106 = .ok (.iload 7, 2) := by decide +kernel
theorem dX5_sortBy_108 : decode cX5_sortBy 108 = .ok (.iload 5, 2) := by decide +kernel
theorem dX5_sortBy_110 : decode cX5_sortBy 110 = .ok (.iastore, 1) := by decide +kernel
theorem dX5_sortBy_111 : decode cX5_sortBy 111 = .ok (.iinc 5 1, 3) := by decide +kernel
theorem dX5_sortBy_114 : decode cX5_sortBy 114 = .ok (.goto (-100), 3) := by decide +kernel
theorem dX5_sortBy_117 : decode cX5_sortBy 117 = .ok (.iconst 0, 1) := by decide +kernel
theorem dX5_sortBy_118 : decode cX5_sortBy 118 = .ok (.istore 5, 2) := by decide +kernel
theorem dX5_sortBy_120 : decode cX5_sortBy 120 = .ok (.iconst 0, 1) := by decide +kernel
theorem dX5_sortBy_121 : decode cX5_sortBy 121 = .ok (.istore 6, 2) := by decide +kernel
theorem dX5_sortBy_123 : decode cX5_sortBy 123 = .ok (.iload 6, 2) := by decide +kernel
theorem dX5_sortBy_125 : decode cX5_sortBy 125 = .ok (.iload 4, 2) := by decide +kernel
theorem dX5_sortBy_127 : decode cX5_sortBy 127 = .ok (.if_icmp .ge 28, 3) := by decide +kernel
theorem dX5_sortBy_130 : decode cX5_sortBy 130 = .ok (.iload 5, 2) := by decide +kernel
theorem dX5_sortBy_132 : decode cX5_sortBy 132 = .ok (.aload_n 3, 1) := by decide +kernel
theorem dX5_sortBy_133 : decode cX5_sortBy 133 = .ok (.iload 6, 2) := by decide +kernel
theorem dX5_sortBy_135 : decode cX5_sortBy 135 = .ok (.iaload, 1) := by decide +kernel
theorem dX5_sortBy_136 : decode cX5_sortBy 136 = .ok (.iload 6, 2) := by decide +kernel
theorem dX5_sortBy_138 : decode cX5_sortBy 138 = .ok (.if_icmp .ne 7, 3) := by decide +kernel
theorem dX5_sortBy_141 : decode cX5_sortBy 141 = .ok (.iconst 0, 1) := by decide +kernel
theorem dX5_sortBy_142 : decode cX5_sortBy 142 = .ok (.goto 4, 3) := by decide +kernel
theorem dX5_sortBy_145 : decode cX5_sortBy 145 = .ok (.iconst 1, 1) := by decide +kernel
theorem dX5_sortBy_146 : decode cX5_sortBy 146 = .ok (.iadd, 1) := by decide +kernel
theorem dX5_sortBy_147 : decode cX5_sortBy 147 = .ok (.istore 5, 2) := by decide +kernel
theorem dX5_sortBy_149 : decode cX5_sortBy 149 = .ok (.iinc 6 1, 3) := by decide +kernel
theorem dX5_sortBy_152 : decode cX5_sortBy 152 = .ok (.goto (-29), 3) := by decide +kernel
theorem dX5_sortBy_155 : decode cX5_sortBy 155 = .ok (.iload 5, 2) := by decide +kernel
theorem dX5_sortBy_157 : decode cX5_sortBy 157 = .ok (.ireturn, 1) := by decide +kernel
theorem dX5_comesBefore_0 : decode cX5_comesBefore 0 = .ok (.aload_n 0, 1) := by decide +kernel
theorem dX5_comesBefore_1 : decode cX5_comesBefore 1 = .ok (.ifnull 7, 3) := by decide +kernel
theorem dX5_comesBefore_4 : decode cX5_comesBefore 4 = .ok (.aload_n 1, 1) := by decide +kernel
theorem dX5_comesBefore_5 : decode cX5_comesBefore 5 = .ok (.ifnonnull 5, 3) := by decide +kernel
theorem dX5_comesBefore_8 : decode cX5_comesBefore 8 = .ok (.iconst 0, 1) := by decide +kernel
theorem dX5_comesBefore_9 : decode cX5_comesBefore 9 = .ok (.ireturn, 1) := by decide +kernel
theorem dX5_comesBefore_10 : decode cX5_comesBefore 10 = .ok (.aload_n 0, 1) := by decide +kernel
theorem dX5_comesBefore_11 : decode cX5_comesBefore 11 = .ok (.iload_n 2, 1) := by decide +kernel
theorem dX5_comesBefore_12 : decode cX5_comesBefore 12 = .ok (.invokevirtual 74, 3) := by decide +kernel
theorem dX5_comesBefore_15 : decode cX5_comesBefore 15 = .ok (.astore 4, 2) := by decide +kernel
theorem dX5_comesBefore_17 : decode cX5_comesBefore 17 = .ok (.aload_n 1, 1) := by decide +kernel
theorem dX5_comesBefore_18 : decode cX5_comesBefore 18 = .ok (.iload_n 2, 1) := by decide +kernel
theorem dX5_comesBefore_19 : decode cX5_comesBefore 19 = .ok (.invokevirtual 74, 3) := by decide +kernel
theorem dX5_comesBefore_22 : decode cX5_comesBefore 22 = .ok (.astore 5, 2) := by decide +kernel
theorem dX5_comesBefore_24 : decode cX5_comesBefore 24 = .ok (.aload 4, 2) := by decide +kernel
theorem dX5_comesBefore_26 : decode cX5_comesBefore 26 = .ok (.invokevirtual 78, 3) := by decide +kernel
theorem dX5_comesBefore_29 : decode cX5_comesBefore 29 = .ok (.ifCond .ne 11, 3) := by decide +kernel
theorem dX5_comesBefore_32 : decode cX5_comesBefore 32 = .ok (.aload 5, 2) := by decide +kernel
theorem dX5_comesBefore_34 : decode cX5_comesBefore 34 = .ok (.invokevirtual 78, 3) := by decide +kernel
theorem dX5_comesBefore_37 : decode cX5_comesBefore 37 = .ok (.ifCond .eq 17, 3) := by decide +kernel
theorem dX5_comesBefore_40 : decode cX5_comesBefore 40 = .ok (.aload 4, 2) := by decide +kernel
theorem dX5_comesBefore_42 : decode cX5_comesBefore 42 = .ok (.invokevirtual 78, 3) := by decide +kernel
theorem dX5_comesBefore_45 : decode cX5_comesBefore 45 = .ok (.ifCond .ne 7, 3) := by decide +kernel
theorem dX5_comesBefore_48 : decode cX5_comesBefore 48 = .ok (.iconst 1, 1) := by decide +kernel
theorem dX5_comesBefore_49 : decode cX5_comesBefore 49 = .ok (.goto 4, 3) := by decide +kernel
theorem dX5_comesBefore_52 : decode cX5_comesBefore 52 = .ok (.iconst 0, 1) := by decide +kernel
theorem dX5_comesBefore_53 : decode cX5_comesBefore 53 = .ok (.ireturn, 1) := by decide +kernel
theorem dX5_comesBefore_54 : decode cX5_comesBefore 54 = .ok (.aload 4, 2) := by decide +kernel
theorem dX5_comesBefore_56 : decode cX5_comesBefore 56 = .ok (.aload 5, 2) := by decide +kernel
theorem dX5_comesBefore_58 : decode cX5_comesBefore 58 = .ok (.invokevirtual 82, 3) := by decide +kernel
theorem dX5_comesBefore_61 : decode cX5_comesBefore 61 = .ok (.istore 6, 2) := by decide +kernel
theorem dX5_comesBefore_63 : decode cX5_comesBefore 63 = .ok (.iload_n 3, 1) := by decide +kernel
theorem dX5_comesBefore_64 : decode cX5_comesBefore 64 = .ok (.ifCond .eq 16, 3) := by decide +kernel
theorem dX5_comesBefore_67 : decode cX5_comesBefore 67 = .ok (.iload 6, 2) := by decide +kernel
theorem dX5_comesBefore_69 : decode cX5_comesBefore 69 = .ok (.ifCond .le 7, 3) := by decide +kernel
theorem dX5_comesBefore_72 : decode cX5_comesBefore 72 = .ok (.iconst 1, 1) := by decide +kernel
theorem dX5_comesBefore_73 : decode cX5_comesBefore 73 = .ok (.goto 17, 3) := by decide +kernel
theorem dX5_comesBefore_76 : decode cX5_comesBefore 76 = .ok (.iconst 0, 1) := by decide +kernel
theorem dX5_comesBefore_77 : decode cX5_comesBefore 77 = .ok (.goto 13, 3) := by decide +kernel
theorem dX5_comesBefore_80 : decode cX5_comesBefore 80 = .ok (.iload 6, 2) := by decide +kernel
theorem dX5_comesBefore_82 : decode cX5_comesBefore 82 = .ok (.ifCond .ge 7, 3) := by decide +kernel
theorem dX5_comesBefore_85 : decode cX5_comesBefore 85 = .ok (.iconst 1, 1) := by decide +kernel
theorem dX5_comesBefore_86 : decode cX5_comesBefore 86 = .ok (.goto 4, 3) := by decide +kernel
theorem dX5_comesBefore_89 : decode cX5_comesBefore 89 = .ok (.iconst 0, 1) := by decide +kernel
theorem dX5_comesBefore_90 : decode cX5_comesBefore 90 = .ok (.ireturn, 1) := by decide +kernel
theorem dX5_addressFields_0 : decode cX5_addressFields 0 = .ok (.aload_n 0, 1) := by decide +kernel
theorem dX5_addressFields_1 : decode cX5_addressFields 1 = .ok (.getfield 40, 3) := by decide +kernel
theorem dX5_addressFields_4 : decode cX5_addressFields 4 = .ok (.invokevirtual 78, 3) := by decide +kernel
theorem dX5_addressFields_7 : decode cX5_addressFields 7 = .ok (.ifCond .ne 22, 3) := by decide +kernel
theorem dX5_addressFields_10 : decode cX5_addressFields 10 = .ok (.aload_n 1, 1) := by decide +kernel
theorem dX5_addressFields_11 : decode cX5_addressFields 11 = .ok (.iconst 4, 1) := by decide +kernel
theorem dX5_addressFields_12 : decode cX5_addressFields 12 = .ok (.invokevirtual 74, 3) := by decide +kernel
theorem dX5_addressFields_15 : decode cX5_addressFields 15 = .ok (.aload_n 0, 1) := by decide +kernel
theorem dX5_addressFields_16 : decode cX5_addressFields 16 = .ok (.getfield 40, 3) := by decide +kernel
theorem dX5_addressFields_19 : decode cX5_addressFields 19 = .ok (.invokevirtual 86, 3) := by decide +kernel
theorem dX5_addressFields_22 : decode cX5_addressFields 22 = .ok (.ifCond .eq 7, 3) := by decide +kernel
theorem dX5_addressFields_25 : decode cX5_addressFields 25 = .ok (.iconst 1, 1) := by decide +kernel
theorem dX5_addressFields_26 : decode cX5_addressFields 26 = .ok (.goto 4, 3) := by decide +kernel
theorem dX5_addressFields_29 : decode cX5_addressFields 29 = .ok (.iconst 0, 1) := by decide +kernel
theorem dX5_addressFields_30 : decode cX5_addressFields 30 = .ok (.istore_n 2, 1) := by decide +kernel
theorem dX5_addressFields_31 : decode cX5_addressFields 31 = .ok (.iload_n 2, 1) := by decide +kernel
theorem dX5_addressFields_32 : decode cX5_addressFields 32 = .ok (.ifCond .eq 13, 3) := by decide +kernel
theorem dX5_addressFields_35 : decode cX5_addressFields 35 = .ok (.aload_n 1, 1) := by decide +kernel
theorem dX5_addressFields_36 : decode cX5_addressFields 36 = .ok (.invokevirtual 90, 3) := by decide +kernel
theorem dX5_addressFields_39 : decode cX5_addressFields 39 = .ok (.bipush (-17), 2) := by decide +kernel
theorem dX5_addressFields_41 : decode cX5_addressFields 41 = .ok (.iand, 1) := by decide +kernel
theorem dX5_addressFields_42 : decode cX5_addressFields 42 = .ok (.goto 7, 3) := by decide +kernel
theorem dX5_addressFields_45 : decode cX5_addressFields 45 = .ok (.aload_n 1, 1) := by decide +kernel
theorem dX5_addressFields_46 : decode cX5_addressFields 46 = .ok (.invokevirtual 90, 3) := by decide +kernel
theorem dX5_addressFields_49 : decode cX5_addressFields 49 = .ok (.ireturn, 1) := by decide +kernel
theorem dX5_isExcluded_0 : decode cX5_isExcluded 0 = .ok (.aload_n 0, 1) := by decide +kernel
theorem dX5_isExcluded_1 : decode cX5_isExcluded 1 = .ok (.getfield 50, 3) := by decide +kernel
theorem dX5_isExcluded_4 : decode cX5_isExcluded 4 = .ok (.aload_n 1, 1) := by decide +kernel
theorem dX5_isExcluded_5 : decode cX5_isExcluded 5 = .ok (.getfield 94, 3) := by decide +kernel
theorem dX5_isExcluded_8 : decode cX5_isExcluded 8 = .ok (.ishr, 1) := by decide +kernel
theorem dX5_isExcluded_9 : decode cX5_isExcluded 9 = .ok (.iconst 1, 1) := by decide +kernel
theorem dX5_isExcluded_10 : decode cX5_isExcluded 10 = .ok (.iand, 1) := by decide +kernel
theorem dX5_isExcluded_11 : decode cX5_isExcluded 11 = .ok (.ifCond .eq 7, 3) := by decide +kernel
theorem dX5_isExcluded_14 : decode cX5_isExcluded 14 = .ok (.iconst 1, 1) := by decide +kernel
theorem dX5_isExcluded_15 : decode cX5_isExcluded 15 = .ok (.goto 4, 3) := by decide +kernel
theorem dX5_isExcluded_18 : decode cX5_isExcluded 18 = .ok (.iconst 0, 1) := by decide +kernel
theorem dX5_isExcluded_19 : decode cX5_isExcluded 19 = .ok (.ireturn, 1) := by decide +kernel
theorem dX5_areDuplicates_0 : decode cX5_areDuplicates 0 = .ok (.iconst 0, 1) := by decide +kernel
theorem dX5_areDuplicates_1 : decode cX5_areDuplicates 1 = .ok (.istore_n 3, 1) := by decide +kernel
theorem dX5_areDuplicates_2 : decode cX5_areDuplicates 2 = .ok (.iload_n 3, 1) := by decide +kernel
theorem dX5_areDuplicates_3 : decode cX5_areDuplicates 3 = .ok (.iconst 5, 1) := by decide +kernel
theorem dX5_areDuplicates_4 : decode cX5_areDuplicates 4 = .ok (.if_icmp .ge 38, 3) := by decide +kernel
theorem dX5_areDuplicates_7 : decode cX5_areDuplicates 7 = .ok (.aload_n 0, 1) := by decide +kernel
theorem dX5_areDuplicates_8 : decode cX5_areDuplicates 8 = .ok (.getfield 44, 3) := by decide +kernel
theorem dX5_areDuplicates_11 : decode cX5_areDuplicates 11 = .ok (.iload_n 3, 1) := by decide +kernel
theorem dX5_areDuplicates_12 : decode cX5_areDuplicates 12 = .ok (.ishr, 1) := by decide +kernel
theorem dX5_areDuplicates_13 : decode cX5_areDuplicates 13 = .ok (.iconst 1, 1) := by decide +kernel
theorem dX5_areDuplicates_14 : decode cX5_areDuplicates 14 = .ok (.iand, 1) := by decide +kernel
theorem dX5_areDuplicates_15 : decode cX5_areDuplicates 15 = .ok (.ifCond .eq 21, 3) := by decide +kernel
theorem dX5_areDuplicates_18 : decode cX5_areDuplicates 18 = .ok (.aload_n 1, 1) := by decide +kernel
theorem dX5_areDuplicates_19 : decode cX5_areDuplicates 19 = .ok (.iload_n 3, 1) := by decide +kernel
theorem dX5_areDuplicates_20 : decode cX5_areDuplicates 20 = .ok (.invokevirtual 74, 3) := by decide +kernel
theorem dX5_areDuplicates_23 : decode cX5_areDuplicates 23 = .ok (.aload_n 2, 1) := by decide +kernel
theorem dX5_areDuplicates_24 : decode cX5_areDuplicates 24 = .ok (.iload_n 3, 1) := by decide +kernel
theorem dX5_areDuplicates_25 : decode cX5_areDuplicates 25 = .ok (.invokevirtual 74, 3) := by decide +kernel
theorem dX5_areDuplicates_28 : decode cX5_areDuplicates 28 = .ok (.invokevirtual 86, 3) := by decide +kernel
theorem dX5_areDuplicates_31 : decode cX5_areDuplicates 31 = .ok (.ifCond .ne 5, 3) := by decide +kernel
theorem dX5_areDuplicates_34 : decode cX5_areDuplicates 34 = .ok (.iconst 0, 1) := by decide +kernel
theorem dX5_areDuplicates_35 : decode cX5_areDuplicates 35 = .ok (.ireturn, 1) := by decide +kernel
theorem dX5_areDuplicates_36 : decode cX5_areDuplicates 36 = .ok (.iinc 3 1, 3) := by decide +kernel
theorem dX5_areDuplicates_39 : decode cX5_areDuplicates 39 = .ok (.goto (-37), 3) := by decide +kernel
theorem dX5_areDuplicates_42 : decode cX5_areDuplicates 42 = .ok (.iconst 1, 1) := by decide +kernel
theorem dX5_areDuplicates_43 : decode cX5_areDuplicates 43 = .ok (.ireturn, 1) := by decide +kernel
theorem dX5_keptOf_0 : decode cX5_keptOf 0 = .ok (.aload_n 0, 1) := by decide +kernel
theorem dX5_keptOf_1 : decode cX5_keptOf 1 = .ok (.iload_n 1, 1) := by decide +kernel
theorem dX5_keptOf_2 : decode cX5_keptOf 2 = .ok (.invokevirtual 66, 3) := by decide +kernel
theorem dX5_keptOf_5 : decode cX5_keptOf 5 = .ok (.astore 4, 2) := by decide +kernel
theorem dX5_keptOf_7 : decode cX5_keptOf 7 = .ok (.aload_n 0, 1) := by decide +kernel
theorem dX5_keptOf_8 : decode cX5_keptOf 8 = .ok (.getfield 44, 3) := by decide +kernel
theorem dX5_keptOf_11 : decode cX5_keptOf 11 = .ok (.ifCond .eq 17, 3) := by decide +kernel
theorem dX5_keptOf_14 : decode cX5_keptOf 14 = .ok (.aload 4, 2) := by decide +kernel
theorem dX5_keptOf_16 : decode cX5_keptOf 16 = .ok (.ifnull 12, 3) := by decide +kernel
theorem dX5_keptOf_19 : decode cX5_keptOf 19 = .ok (.aload_n 0, 1) := by decide +kernel
theorem dX5_keptOf_20 : decode cX5_keptOf 20 = .ok (.aload 4, 2) := by decide +kernel
theorem dX5_keptOf_22 : decode cX5_keptOf 22 = .ok (.invokevirtual 97, 3) := by decide +kernel
theorem dX5_keptOf_25 : decode cX5_keptOf 25 = .ok (.ifCond .eq 5, 3) := by decide +kernel
theorem dX5_keptOf_28 : decode cX5_keptOf 28 = .ok (.iload_n 1, 1) := by decide +kernel
theorem dX5_keptOf_29 : decode cX5_keptOf 29 = .ok (.ireturn, 1) := by decide +kernel
theorem dX5_keptOf_30 : decode cX5_keptOf 30 = .ok (.iload_n 1, 1) := by decide +kernel
theorem dX5_keptOf_31 : decode cX5_keptOf 31 = .ok (.istore 5, 2) := by decide +kernel
theorem dX5_keptOf_33 : decode cX5_keptOf 33 = .ok (.aconst_null, 1) := by decide +kernel
theorem dX5_keptOf_34 : decode cX5_keptOf 34 = .ok (.astore 6, 2) := by decide +kernel
theorem dX5_keptOf_36 : decode cX5_keptOf 36 = .ok (.iconst 0, 1) := by decide +kernel
theorem dX5_keptOf_37 : decode cX5_keptOf 37 = .ok (.istore 7, 2) := by decide +kernel
theorem dX5_keptOf_39 : decode cX5_keptOf 39 = .ok (.iload 7, 2) := by decide +kernel
theorem dX5_keptOf_41 : decode cX5_keptOf 41 = .ok (.aload_n 0, 1) := by decide +kernel
theorem dX5_keptOf_42 : decode cX5_keptOf 42 = .ok (.getfield 20, 3) := by decide +kernel
theorem dX5_keptOf_45 : decode cX5_keptOf 45 = .ok (.if_icmp .ge 89, 3) := by decide +kernel
theorem dX5_keptOf_48 : decode cX5_keptOf 48 = .ok (.iload_n 3, 1) := by decide +kernel
theorem dX5_keptOf_49 : decode cX5_keptOf 49 = .ok (.ifCond .eq 15, 3) := by decide +kernel
theorem dX5_keptOf_52 : decode cX5_keptOf 52 = .ok (.aload_n 0, 1) := by decide +kernel
theorem dX5_keptOf_53 : decode cX5_keptOf 53 = .ok (.getfield 20, 3) := by decide +kernel
theorem dX5_keptOf_56 : decode cX5_keptOf 56 = .ok (.iconst 1, 1) := by decide +kernel
theorem dX5_keptOf_57 : decode cX5_keptOf 57 = .ok (.isub, 1) := by decide +kernel
theorem dX5_keptOf_58 : decode cX5_keptOf 58 = .ok (.iload 7, 2) := by decide +kernel
theorem dX5_keptOf_60 : decode cX5_keptOf 60 = .ok (.isub, 1) := by decide +kernel
theorem dX5_keptOf_61 : decode cX5_keptOf 61 = .ok (.goto 5, 3) := by decide +kernel
theorem dX5_keptOf_64 : decode cX5_keptOf 64 = .ok (.iload 7, 2) := by decide +kernel
theorem dX5_keptOf_66 : decode cX5_keptOf 66 = .ok (.istore 8, 2) := by decide +kernel
theorem dX5_keptOf_68 : decode cX5_keptOf 68 = .ok (.aload_n 0, 1) := by decide +kernel
theorem dX5_keptOf_69 : decode cX5_keptOf 69 = .ok (.iload 8, 2) := by decide +kernel
theorem dX5_keptOf_71 : decode cX5_keptOf 71 = .ok (.invokevirtual 66, 3) := by decide +kernel
theorem dX5_keptOf_74 : decode cX5_keptOf 74 = .ok (.astore 9, 2) := by decide +kernel
theorem dX5_keptOf_76 : decode cX5_keptOf 76 = .ok (.aload 9, 2) := by decide +kernel
theorem dX5_keptOf_78 : decode cX5_keptOf 78 = .ok (.ifnull 50, 3) := by decide +kernel
theorem dX5_keptOf_81 : decode cX5_keptOf 81 = .ok (.aload_n 0, 1) := by decide +kernel
theorem dX5_keptOf_82 : decode cX5_keptOf 82 = .ok (.aload 9, 2) := by decide +kernel
theorem dX5_keptOf_84 : decode cX5_keptOf 84 = .ok (.invokevirtual 97, 3) := by decide +kernel
theorem dX5_keptOf_87 : decode cX5_keptOf 87 = .ok (.ifCond .ne 41, 3) := by decide +kernel
theorem dX5_keptOf_90 : decode cX5_keptOf 90 = .ok (.aload_n 0, 1) := by decide +kernel
theorem dX5_keptOf_91 : decode cX5_keptOf 91 = .ok (.aload 4, 2) := by decide +kernel
theorem dX5_keptOf_93 : decode cX5_keptOf 93 = .ok (.aload 9, 2) := by decide +kernel
theorem dX5_keptOf_95 : decode cX5_keptOf 95 = .ok (.invokevirtual 101, 3) := by decide +kernel
theorem dX5_keptOf_98 : decode cX5_keptOf 98 = .ok (.ifCond .ne 6, 3) := by decide +kernel
theorem dX5_keptOf_101 : decode cX5_keptOf 101 = .ok (.goto 27, 3) := by decide +kernel
theorem dX5_keptOf_104 : decode cX5_keptOf 104 = .ok (.aload 6, 2) := by decide +kernel
theorem dX5_keptOf_106 : decode cX5_keptOf 106 = .ok (.ifnull 14, 3) := by decide +kernel
theorem dX5_keptOf_109 : decode cX5_keptOf 109 = .ok (.aload 9, 2) := by decide +kernel
theorem dX5_keptOf_111 : decode cX5_keptOf 111 = .ok (.aload 6, 2) := by decide +kernel
theorem dX5_keptOf_113 : decode cX5_keptOf 113 = .ok (.iload_n 2, 1) := by decide +kernel
theorem dX5_keptOf_114 : decode cX5_keptOf 114 = .ok (.invokestatic 105, 3) := by decide +kernel
theorem dX5_keptOf_117 : decode cX5_keptOf 117 = .ok (.ifCond .eq 11, 3) := by decide +kernel
theorem dX5_keptOf_120 : decode cX5_keptOf 120 = .ok (.iload 8, 2) := by decide +kernel
theorem dX5_keptOf_122 : decode cX5_keptOf 122 = .ok (.istore 5, 2) := by decide +kernel
theorem dX5_keptOf_124 : decode cX5_keptOf 124 = .ok (.aload 9, 2) := by decide +kernel
theorem dX5_keptOf_126 : decode cX5_keptOf 126 = .ok (.astore 6, 2) := by decide +kernel
theorem dX5_keptOf_128 : decode cX5_keptOf 128 = .ok (.iinc 7 1, 3) := by decide +kernel
theorem dX5_keptOf_131 : decode cX5_keptOf 131 = .ok (.goto (-92), 3) := by decide +kernel
theorem dX5_keptOf_134 : decode cX5_keptOf 134 = .ok (.iload 5, 2) := by decide +kernel
theorem dX5_keptOf_136 : decode cX5_keptOf 136 = .ok (.ireturn, 1) := by decide +kernel
theorem dX5_isBetter_0 : decode cX5_isBetter 0 = .ok (.iload_n 2, 1) := by decide +kernel
theorem dX5_isBetter_1 : decode cX5_isBetter 1 = .ok (.iconst 1, 1) := by decide +kernel
theorem dX5_isBetter_2 : decode cX5_isBetter 2 = .ok (.if_icmp .eq 19, 3) := by decide +kernel
theorem dX5_isBetter_5 : decode cX5_isBetter 5 = .ok (.iload_n 2, 1) := by decide +kernel
theorem dX5_isBetter_6 : decode cX5_isBetter 6 = .ok (.iconst 2, 1) := by decide +kernel
theorem dX5_isBetter_7 : decode cX5_isBetter 7 = .ok (.if_icmp .ne 18, 3) := by decide +kernel
theorem dX5_isBetter_10 : decode cX5_isBetter 10 = .ok (.aload_n 0, 1) := by decide +kernel
theorem dX5_isBetter_11 : decode cX5_isBetter 11 = .ok (.getfield 109, 3) := by decide +kernel
theorem dX5_isBetter_14 : decode cX5_isBetter 14 = .ok (.aload_n 1, 1) := by decide +kernel
theorem dX5_isBetter_15 : decode cX5_isBetter 15 = .ok (.getfield 109, 3) := by decide +kernel
theorem dX5_isBetter_18 : decode cX5_isBetter 18 = .ok (.if_icmp .le 7, 3) := by decide +kernel
theorem dX5_isBetter_21 : decode cX5_isBetter 21 = .ok (.iconst 1, 1) := by decide +kernel
theorem dX5_isBetter_22 : decode cX5_isBetter 22 = .ok (.goto 4, 3) := by decide +kernel
theorem dX5_isBetter_25 : decode cX5_isBetter 25 = .ok (.iconst 0, 1) := by decide +kernel
theorem dX5_isBetter_26 : decode cX5_isBetter 26 = .ok (.ireturn, 1) := by decide +kernel
theorem dX6_init_0 : decode cX6_init 0 = .ok (.aload_n 0, 1) := by decide +kernel
theorem dX6_init_1 : decode cX6_init 1 = .ok (.invokespecial 3, 3) := by decide +kernel
theorem dX6_init_4 : decode cX6_init 4 = .ok (.aload_n 0, 1) := by decide +kernel
theorem dX6_init_5 : decode cX6_init 5 = .ok (.sipush 200, 3) := by decide +kernel
theorem dX6_init_8 : decode cX6_init 8 = .ok (.newarray .char, 2) := by decide +kernel
theorem dX6_init_10 : decode cX6_init 10 = .ok (.putfield 9, 3) := by decide +kernel
theorem dX6_init_13 : decode cX6_init 13 = .ok (.aload_n 0, 1) := by decide +kernel
theorem dX6_init_14 : decode cX6_init 14 = .ok (.iconst 5, 1) := by decide +kernel
theorem dX6_init_15 : decode cX6_init 15 = .ok (.newarray .int, 2) := by decide +kernel
theorem dX6_init_17 : decode cX6_init 17 = .ok (.putfield 15, 3) := by decide +kernel
theorem dX6_init_20 : decode cX6_init 20 = .ok (.aload_n 0, 1) := by decide +kernel
theorem dX6_init_21 : decode cX6_init 21 = .ok (.iconst 0, 1) := by decide +kernel
theorem dX6_init_22 : decode cX6_init 22 = .ok (.putfield 19, 3) := by decide +kernel
theorem dX6_init_25 : decode cX6_init 25 = .ok (.aload_n 0, 1) := by decide +kernel
theorem dX6_init_26 : decode cX6_init 26 = .ok (.iconst 0, 1) := by decide +kernel
theorem dX6_init_27 : decode cX6_init 27 = .ok (.putfield 23, 3) := by decide +kernel
theorem dX6_init_30 : decode cX6_init 30 = .ok (.aload_n 0, 1) := by decide +kernel
theorem dX6_init_31 : decode cX6_init 31 = .ok (.iconst 0, 1) := by decide +kernel
theorem dX6_init_32 : decode cX6_init 32 = .ok (.putfield 26, 3) := by decide +kernel
theorem dX6_init_35 : decode cX6_init 35 = .ok (.aload_n 0, 1) := by decide +kernel
theorem dX6_init_36 : decode cX6_init 36 = .ok (.iconst 0, 1) := by decide +kernel
theorem dX6_init_37 : decode cX6_init 37 = .ok (.putfield 29, 3) := by decide +kernel
theorem dX6_init_40 : decode cX6_init 40 = .ok (.aload_n 0, 1) := by decide +kernel
theorem dX6_init_41 : decode cX6_init 41 = .ok (.iconst 0, 1) := by decide +kernel
theorem dX6_init_42 : decode cX6_init 42 = .ok (.putfield 32, 3) := by decide +kernel
theorem dX6_init_45 : decode cX6_init 45 = .ok (.return_, 1) := by decide +kernel
theorem dX6_leaveBlank_0 : decode cX6_leaveBlank 0 = .ok (.aload_n 0, 1) := by decide +kernel
theorem dX6_leaveBlank_1 : decode cX6_leaveBlank 1 = .ok (.iconst 0, 1) := by decide +kernel
theorem dX6_leaveBlank_2 : decode cX6_leaveBlank 2 = .ok (.putfield 19, 3) := by decide +kernel
theorem dX6_leaveBlank_5 : decode cX6_leaveBlank 5 = .ok (.aload_n 0, 1) := by decide +kernel
theorem dX6_leaveBlank_6 : decode cX6_leaveBlank 6 = .ok (.iconst 0, 1) := by decide +kernel
theorem dX6_leaveBlank_7 : decode cX6_leaveBlank 7 = .ok (.putfield 23, 3) := by decide +kernel
theorem dX6_leaveBlank_10 : decode cX6_leaveBlank 10 = .ok (.aload_n 0, 1) := by decide +kernel
theorem dX6_leaveBlank_11 : decode cX6_leaveBlank 11 = .ok (.iload_n 1, 1) := by decide +kernel
theorem dX6_leaveBlank_12 : decode cX6_leaveBlank 12 = .ok (.putfield 26, 3) := by decide +kernel
theorem dX6_leaveBlank_15 : decode cX6_leaveBlank 15 = .ok (.aload_n 0, 1) := by decide +kernel
theorem dX6_leaveBlank_16 : decode cX6_leaveBlank 16 = .ok (.iconst 0, 1) := by decide +kernel
theorem dX6_leaveBlank_17 : decode cX6_leaveBlank 17 = .ok (.putfield 32, 3) := by decide +kernel
theorem dX6_leaveBlank_20 : decode cX6_leaveBlank 20 = .ok (.return_, 1) := by decide +kernel
theorem dX6_write_0 : decode cX6_write 0 = .ok (.aload_n 0, 1) := by decide +kernel
theorem dX6_write_1 : decode cX6_write 1 = .ok (.iconst 0, 1) := by decide +kernel
theorem dX6_write_2 : decode cX6_write 2 = .ok (.invokevirtual 36, 3) := by decide +kernel
theorem dX6_write_5 : decode cX6_write 5 = .ok (.aload_n 0, 1) := by decide +kernel
theorem dX6_write_6 : decode cX6_write 6 = .ok (.aload_n 1, 1) := by decide +kernel
theorem dX6_write_7 : decode cX6_write 7 = .ok (.getfield 40, 3) := by decide +kernel
theorem dX6_write_10 : decode cX6_write 10 = .ok (.aload_n 0, 1) := by decide +kernel
theorem dX6_write_11 : decode cX6_write 11 = .ok (.getfield 9, 3) := by decide +kernel
theorem dX6_write_14 : decode cX6_write 14 = .ok (.arraylength, 1) := by decide +kernel
theorem dX6_write_15 : decode cX6_write 15 = .ok (.invokestatic 43, 3) := by decide +kernel
theorem dX6_write_18 : decode cX6_write 18 = .ok (.putfield 29, 3) := by decide +kernel
theorem dX6_write_21 : decode cX6_write 21 = .ok (.aload_n 1, 1) := by decide +kernel
theorem dX6_write_22 : decode cX6_write 22 = .ok (.getfield 49, 3) := by decide +kernel
theorem dX6_write_25 : decode cX6_write 25 = .ok (.astore_n 3, 1) := by decide +kernel
theorem dX6_write_26 : decode cX6_write 26 = .ok (.iconst 0, 1) := by decide +kernel
theorem dX6_write_27 : decode cX6_write 27 = .ok (.istore 4, 2) := by decide +kernel
theorem dX6_write_29 : decode cX6_write 29 = .ok (.iconst 0, 1) := by decide +kernel
theorem dX6_write_30 : decode cX6_write 30 = .ok (.istore 5, 2) := by decide +kernel
theorem dX6_write_32 : decode cX6_write 32 = .ok (.iload 5, 2) := by decide +kernel
theorem dX6_write_34 : decode cX6_write 34 = .ok (.aload_n 3, 1) := by decide +kernel
theorem dX6_write_35 : decode cX6_write 35 = .ok (.getfield 53, 3) := by decide +kernel
theorem dX6_write_38 : decode cX6_write 38 = .ok (.if_icmp .ge 92, 3) := by decide +kernel
theorem dX6_write_41 : decode cX6_write 41 = .ok (.aload_n 0, 1) := by decide +kernel
theorem dX6_write_42 : decode cX6_write 42 = .ok (.getfield 26, 3) := by decide +kernel
theorem dX6_write_45 : decode cX6_write 45 = .ok (.ifCond .ne 85, 3) := by decide +kernel
theorem dX6_write_48 : decode cX6_write 48 = .ok (.aload_n 3, 1) := by decide +kernel
theorem dX6_write_49 : decode cX6_write 49 = .ok (.iload 5, 2) := by decide +kernel
theorem dX6_write_51 : decode cX6_write 51 = .ok (.invokevirtual 58, 3) := by decide +kernel
theorem dX6_write_54 : decode cX6_write 54 = .ok (.astore 6, 2) := by decide +kernel
theorem dX6_write_56 : decode cX6_write 56 = .ok (.iload 5, 2) := by decide +kernel
theorem dX6_write_58 : decode cX6_write 58 = .ok (.iload 4, 2) := by decide +kernel
theorem dX6_write_60 : decode cX6_write 60 = .ok (.if_icmp .lt 64, 3) := by decide +kernel
theorem dX6_write_63 : decode cX6_write 63 = .ok (.aload 6, 2) := by decide +kernel
theorem dX6_write_65 : decode cX6_write 65 = .ok (.ifnonnull 6, 3) := by decide +kernel
theorem dX6_write_68 : decode cX6_write 68 = .ok (.goto 56, 3) := by decide +kernel
theorem dX6_write_71 : decode cX6_write 71 = .ok (.aload 6, 2) := by decide +kernel
theorem dX6_write_73 : decode cX6_write 73 = .ok (.aload_n 2, 1) := by decide +kernel
theorem dX6_write_74 : decode cX6_write 74 = .ok (.invokevirtual 62, 3) := by decide +kernel
theorem dX6_write_77 : decode cX6_write 77 = .ok (.ifCond .ne 13, 3) := by decide +kernel
theorem dX6_write_80 : decode cX6_write 80 = .ok (.aload 6, 2) := by decide +kernel
theorem dX6_write_82 : decode cX6_write 82 = .ok (.getfield 68, 3) := by decide +kernel
theorem dX6_write_85 : decode cX6_write 85 = .ok (.istore 4, 2) := by decide +kernel
theorem dX6_write_87 : decode cX6_write 87 = .ok (.goto 37, 3) := by decide +kernel
theorem dX6_write_90 : decode cX6_write 90 = .ok (.aload_n 0, 1) := by decide +kernel
theorem dX6_write_91 : decode cX6_write 91 = .ok (.aload_n 1, 1) := by decide +kernel
theorem dX6_write_92 : decode cX6_write 92 = .ok (.aload_n 2, 1) := by decide +kernel
theorem dX6_write_93 : decode cX6_write 93 = .ok (.aload 6, 2) := by decide +kernel
theorem dX6_write_95 : decode cX6_write 95 = .ok (.invokevirtual 71, 3) := by decide +kernel
theorem dX6_write_98 : decode cX6_write 98 = .ok (.aload_n 0, 1) := by decide +kernel
theorem dX6_write_99 : decode cX6_write 99 = .ok (.getfield 32, 3) := by decide +kernel
theorem dX6_write_102 : decode cX6_write 102 = .ok (.ifCond .eq 8, 3) := by decide +kernel
theorem dX6_write_105 : decode cX6_write 105 = .ok (.aload_n 0, 1) := by decide +kernel
theorem dX6_write_106 : decode cX6_write 106 = .ok (.iconst 4, 1) := by decide +kernel
theorem dX6_write_107 : decode cX6_write 107 = .ok (.putfield 26, 3) := by decide +kernel
theorem dX6_write_110 : decode cX6_write 110 = .ok (.aload_n 0, 1) := by decide +kernel
theorem dX6_write_111 : decode cX6_write 111 = .ok (.getfield 26, 3) := by decide +kernel
theorem dX6_write_114 : decode cX6_write 114 = .ok (.ifCond .eq 10, 3) := by decide +kernel
theorem dX6_write_117 : decode cX6_write 117 = .ok (.aload_n 0, 1) := by decide +kernel
theorem dX6_write_118 : decode cX6_write 118 = .ok (.aload_n 3, 1) := by decide +kernel
theorem dX6_write_119 : decode cX6_write 119 = .ok (.aload 6, 2) := by decide +kernel
theorem dX6_write_121 : decode cX6_write 121 = .ok (.invokevirtual 75, 3) := by decide +kernel
theorem dX6_write_124 : decode cX6_write 124 = .ok (.iinc 5 1, 3) := by decide +kernel
theorem dX6_write_127 : decode cX6_write 127 = .ok (.goto (-95), 3) := by decide +kernel
theorem dX6_write_130 : decode cX6_write 130 = .ok (.return_, 1) := by decide +kernel
theorem dX6_writePiece_0 : decode cX6_writePiece 0 = .ok (.aload_n 3, 1) := by decide +kernel
theorem dX6_writePiece_1 : decode cX6_writePiece 1 = .ok (.getfield 79, 3) := by decide +kernel
theorem dX6_writePiece_4 : decode cX6_writePiece 4 = .ok (.tableswitch 116 0 4 #[36, 47, 58, 71, 90], 36) := by decide +kernel
theorem dX6_writePiece_40 : decode cX6_writePiece 40 = .ok (.aload_n 0, 1) := by decide +kernel
theorem dX6_writePiece_41 : decode cX6_writePiece 41 = .ok (.aload_n 3, 1) := by decide +kernel
theorem dX6_writePiece_42 : decode cX6_writePiece 42 = .ok (.getfield 82, 3) := by decide +kernel
theorem dX6_writePiece_45 : decode cX6_writePiece 45 = .ok (.invokevirtual 86, 3) := by decide +kernel
theorem dX6_writePiece_48 : decode cX6_writePiece 48 = .ok (.goto 72, 3) := by decide +kernel
theorem dX6_writePiece_51 : decode cX6_writePiece 51 = .ok (.aload_n 0, 1) := by decide +kernel
theorem dX6_writePiece_52 : decode cX6_writePiece 52 = .ok (.aload_n 2, 1) := by decide +kernel
theorem dX6_writePiece_53 : decode cX6_writePiece 53 = .ok (.getfield 90, 3) := by decide +kernel
theorem dX6_writePiece_56 : decode cX6_writePiece 56 = .ok (.invokevirtual 95, 3) := by decide +kernel
theorem dX6_writePiece_59 : decode cX6_writePiece 59 = .ok (.goto 61, 3) := by decide +kernel
theorem dX6_writePiece_62 : decode cX6_writePiece 62 = .ok (.aload_n 0, 1) := by decide +kernel
theorem dX6_writePiece_63 : decode cX6_writePiece 63 = .ok (.aload_n 2, 1) := by decide +kernel
theorem dX6_writePiece_64 : decode cX6_writePiece 64 = .ok (.aload_n 1, 1) := by decide +kernel
theorem dX6_writePiece_65 : decode cX6_writePiece 65 = .ok (.aload_n 2, 1) := by decide +kernel
theorem dX6_writePiece_66 : decode cX6_writePiece 66 = .ok (.invokevirtual 98, 3) := by decide +kernel
theorem dX6_writePiece_69 : decode cX6_writePiece 69 = .ok (.invokevirtual 102, 3) := by decide +kernel
theorem dX6_writePiece_72 : decode cX6_writePiece 72 = .ok (.goto 48, 3) := by decide +kernel
theorem dX6_writePiece_75 : decode cX6_writePiece 75 = .ok (.aload_n 0, 1) := by decide +kernel
theorem dX6_writePiece_76 : decode cX6_writePiece 76 = .ok (.aload_n 2, 1) := by decide +kernel
theorem dX6_writePiece_77 : decode cX6_writePiece 77 = .ok (.aload_n 3, 1) := by decide +kernel
theorem dX6_writePiece_78 : decode cX6_writePiece 78 = .ok (.getfield 106, 3) := by decide +kernel
theorem dX6_writePiece_81 : decode cX6_writePiece 81 = .ok (.invokevirtual 109, 3) := by decide +kernel
theorem dX6_writePiece_84 : decode cX6_writePiece 84 = .ok (.aload_n 3, 1) := by decide +kernel
theorem dX6_writePiece_85 : decode cX6_writePiece 85 = .ok (.getfield 113, 3) := by decide +kernel
theorem dX6_writePiece_88 : decode cX6_writePiece 88 = .ok (.invokevirtual 116, 3) := by decide +kernel
theorem dX6_writePiece_91 : decode cX6_writePiece 91 = .ok (.goto 29, 3) := by decide +kernel
theorem dX6_writePiece_94 : decode cX6_writePiece 94 = .ok (.aload_n 0, 1) := by decide +kernel
theorem dX6_writePiece_95 : decode cX6_writePiece 95 = .ok (.aload_n 2, 1) := by decide +kernel
theorem dX6_writePiece_96 : decode cX6_writePiece 96 = .ok (.getfield 90, 3) := by decide +kernel
theorem dX6_writePiece_99 : decode cX6_writePiece 99 = .ok (.iconst 1, 1) := by decide +kernel
theorem dX6_writePiece_100 : decode cX6_writePiece 100 = .ok (.if_icmp .ne 10, 3) := by decide +kernel
theorem dX6_writePiece_103 : decode cX6_writePiece 103 = .ok (.aload_n 3, 1) := by decide +kernel
theorem dX6_writePiece_104 : decode cX6_writePiece 104 = .ok (.getfield 120, 3) := by decide +kernel
theorem dX6_writePiece_107 : decode cX6_writePiece 107 = .ok (.goto 7, 3) := by decide +kernel
theorem dX6_writePiece_110 : decode cX6_writePiece 110 = .ok (.aload_n 3, 1) := by decide +kernel
theorem dX6_writePiece_111 : decode cX6_writePiece 111 = .ok (.getfield 124, 3) := by decide +kernel
theorem dX6_writePiece_114 : decode cX6_writePiece 114 = .ok (.invokevirtual 127, 3) := by decide +kernel
theorem dX6_writePiece_117 : decode cX6_writePiece 117 = .ok (.goto 3, 3) := by decide +kernel
theorem dX6_writePiece_120 : decode cX6_writePiece 120 = .ok (.return_, 1) := by decide +kernel
theorem dX6_put_0 : decode cX6_put 0 = .ok (.aload_n 0, 1) := by decide +kernel
theorem dX6_put_1 : decode cX6_put 1 = .ok (.getfield 19, 3) := by decide +kernel
theorem dX6_put_4 : decode cX6_put 4 = .ok (.aload_n 0, 1) := by decide +kernel
theorem dX6_put_5 : decode cX6_put 5 = .ok (.getfield 29, 3) := by decide +kernel
theorem dX6_put_8 : decode cX6_put 8 = .ok (.if_icmp .ge 26, 3) := by decide +kernel
theorem dX6_put_11 : decode cX6_put 11 = .ok (.aload_n 0, 1) := by decide +kernel
theorem dX6_put_12 : decode cX6_put 12 = .ok (.getfield 9, 3) := by decide +kernel
theorem dX6_put_15 : decode cX6_put 15 = .ok (.aload_n 0, 1) := by decide +kernel
theorem dX6_put_16 : decode cX6_put 16 = .ok (.getfield 19, 3) := by decide +kernel
theorem dX6_put_19 : decode cX6_put 19 = .ok (.iload_n 1, 1) := by decide +kernel
theorem dX6_put_20 : decode cX6_put 20 = .ok (.castore, 1) := by decide +kernel
theorem dX6_put_21 : decode cX6_put 21 = .ok (.aload_n 0, 1) := by decide +kernel
theorem dX6_put_22 : decode cX6_put 22 = .ok (.dup, 1) := by decide +kernel
theorem dX6_put_23 : decode cX6_put 23 = .ok (.getfield 19, 3) := by decide +kernel
theorem dX6_put_26 : decode cX6_put 26 = .ok (.iconst 1, 1) := by decide +kernel
theorem dX6_put_27 : decode cX6_put 27 = .ok (.iadd, 1) := by decide +kernel
theorem dX6_put_28 : decode cX6_put 28 = .ok (.putfield 19, 3) := by decide +kernel
theorem dX6_put_31 : decode cX6_put 31 = .ok (.goto 8, 3) := by decide +kernel
theorem dX6_put_34 : decode cX6_put 34 = .ok (.aload_n 0, 1) := by decide +kernel
theorem dX6_put_35 : decode cX6_put 35 = .ok (.iconst 1, 1) := by decide +kernel
theorem dX6_put_36 : decode cX6_put 36 = .ok (.putfield 32, 3) := by decide +kernel
theorem dX6_put_39 : decode cX6_put 39 = .ok (.return_, 1) := by decide +kernel
theorem dX6_putAll_0 : decode cX6_putAll 0 = .ok (.iconst 0, 1) := by decide +kernel
theorem dX6_putAll_1 : decode cX6_putAll 1 = .ok (.istore_n 2, 1) := by decide +kernel
theorem dX6_putAll_2 : decode cX6_putAll 2 = .ok (.iload_n 2, 1) := by decide +kernel
theorem dX6_putAll_3 : decode cX6_putAll 3 = .ok (.aload_n 1, 1) := by decide +kernel
theorem dX6_putAll_4 : decode cX6_putAll 4 = .ok (.invokevirtual 131, 3) := by decide +kernel
theorem dX6_putAll_7 : decode cX6_putAll 7 = .ok (.if_icmp .ge 18, 3) := by decide +kernel
theorem dX6_putAll_10 : decode cX6_putAll 10 = .ok (.aload_n 0, 1) := by decide +kernel
theorem dX6_putAll_11 : decode cX6_putAll 11 = .ok (.aload_n 1, 1) := by decide +kernel
theorem dX6_putAll_12 : decode cX6_putAll 12 = .ok (.iload_n 2, 1) := by decide +kernel
theorem dX6_putAll_13 : decode cX6_putAll 13 = .ok (.invokevirtual 136, 3) := by decide +kernel
theorem dX6_putAll_16 : decode cX6_putAll 16 = .ok (.invokevirtual 86, 3) := by decide +kernel
theorem dX6_putAll_19 : decode cX6_putAll 19 = .ok (.iinc 2 1, 3) := by decide +kernel
theorem dX6_putAll_22 : decode cX6_putAll 22 = .ok (.goto (-20), 3) := by decide +kernel
theorem dX6_putAll_25 : decode cX6_putAll 25 = .ok (.return_, 1) := by decide +kernel
theorem dX6_putNumber_0 : decode cX6_putNumber 0 = .ok (.iload_n 1, 1) := by decide +kernel
theorem dX6_putNumber_1 : decode cX6_putNumber 1 = .ok (.bipush 10, 2) := by decide +kernel
theorem dX6_putNumber_3 : decode cX6_putNumber 3 = .ok (.if_icmp .lt 15, 3) := by decide +kernel
theorem dX6_putNumber_6 : decode cX6_putNumber 6 = .ok (.aload_n 0, 1) := by decide +kernel
theorem dX6_putNumber_7 : decode cX6_putNumber 7 = .ok (.bipush 48, 2) := by decide +kernel
theorem dX6_putNumber_9 : decode cX6_putNumber 9 = .ok (.iload_n 1, 1) := by decide +kernel
theorem dX6_putNumber_10 : decode cX6_putNumber 10 = .ok (.bipush 10, 2) := by decide +kernel
theorem dX6_putNumber_12 : decode cX6_putNumber 12 = .ok (.idiv, 1) := by decide +kernel
theorem dX6_putNumber_13 : decode cX6_putNumber 13 = .ok (.iadd, 1) := by decide +kernel
theorem dX6_putNumber_14 : decode cX6_putNumber 14 = .ok (.i2c, 1) := by decide +kernel
theorem dX6_putNumber_15 : decode cX6_putNumber 15 = .ok (.invokevirtual 86, 3) := by decide +kernel
theorem dX6_putNumber_18 : decode cX6_putNumber 18 = .ok (.aload_n 0, 1) := by decide +kernel
theorem dX6_putNumber_19 : decode cX6_putNumber 19 = .ok (.bipush 48, 2) := by decide +kernel
theorem dX6_putNumber_21 : decode cX6_putNumber 21 = .ok (.iload_n 1, 1) := by decide +kernel
theorem dX6_putNumber_22 : decode cX6_putNumber 22 = .ok (.bipush 10, 2) := by decide +kernel
theorem dX6_putNumber_24 : decode cX6_putNumber 24 = .ok (.irem, 1) := by decide +kernel
theorem dX6_putNumber_25 : decode cX6_putNumber 25 = .ok (.iadd, 1) := by decide +kernel
theorem dX6_putNumber_26 : decode cX6_putNumber 26 = .ok (.i2c, 1) := by decide +kernel
theorem dX6_putNumber_27 : decode cX6_putNumber 27 = .ok (.invokevirtual 86, 3) := by decide +kernel
theorem dX6_putNumber_30 : decode cX6_putNumber 30 = .ok (.return_, 1) := by decide +kernel
theorem dX6_putField_0 : decode cX6_putField 0 = .ok (.aload_n 1, 1) := by decide +kernel
theorem dX6_putField_1 : decode cX6_putField 1 = .ok (.invokevirtual 140, 3) := by decide +kernel
theorem dX6_putField_4 : decode cX6_putField 4 = .ok (.ifCond .eq 8, 3) := by decide +kernel
theorem dX6_putField_7 : decode cX6_putField 7 = .ok (.aload_n 0, 1) := by decide +kernel
theorem dX6_putField_8 : decode cX6_putField 8 = .ok (.iconst 3, 1) := by decide +kernel
theorem dX6_putField_9 : decode cX6_putField 9 = .ok (.putfield 26, 3) := by decide +kernel
theorem dX6_putField_12 : decode cX6_putField 12 = .ok (.iconst 0, 1) := by decide +kernel
theorem dX6_putField_13 : decode cX6_putField 13 = .ok (.istore_n 3, 1) := by decide +kernel
theorem dX6_putField_14 : decode cX6_putField 14 = .ok (.iload_n 3, 1) := by decide +kernel
theorem dX6_putField_15 : decode cX6_putField 15 = .ok (.aload_n 1, 1) := by decide +kernel
theorem dX6_putField_16 : decode cX6_putField 16 = .ok (.invokevirtual 146, 3) := by decide +kernel
theorem dX6_putField_19 : decode cX6_putField 19 = .ok (.if_icmp .ge 58, 3) := by decide +kernel
theorem dX6_putField_22 : decode cX6_putField 22 = .ok (.iload_n 2, 1) := by decide +kernel
theorem dX6_putField_23 : decode cX6_putField 23 = .ok (.bipush 42, 2) := by decide +kernel
theorem dX6_putField_25 : decode cX6_putField 25 = .ok (.if_icmp .eq 13, 3) := by decide +kernel
theorem dX6_putField_28 : decode cX6_putField 28 = .ok (.iload_n 2, 1) := by decide +kernel
theorem dX6_putField_29 : decode cX6_putField 29 = .ok (.bipush 94, 2) := by decide +kernel
theorem dX6_putField_31 : decode cX6_putField 31 = .ok (.if_icmp .ne 11, 3) := by decide +kernel
theorem dX6_putField_34 : decode cX6_putField 34 = .ok (.iload_n 3, 1) := by decide +kernel
theorem dX6_putField_35 : decode cX6_putField 35 = .ok (.ifCond .ne 7, 3) := by decide +kernel
theorem dX6_putField_38 : decode cX6_putField 38 = .ok (.iconst 1, 1) := by decide +kernel
theorem dX6_putField_39 : decode cX6_putField 39 = .ok (.goto 4, 3) := by decide +kernel
theorem dX6_putField_42 : decode cX6_putField 42 = .ok (.iconst 0, 1) := by decide +kernel
theorem dX6_putField_43 : decode cX6_putField 43 = .ok (.istore 4, 2) := by decide +kernel
theorem dX6_putField_45 : decode cX6_putField 45 = .ok (.aload_n 1, 1) := by decide +kernel
theorem dX6_putField_46 : decode cX6_putField 46 = .ok (.iload_n 3, 1) := by decide +kernel
theorem dX6_putField_47 : decode cX6_putField 47 = .ok (.invokevirtual 147, 3) := by decide +kernel
theorem dX6_putField_50 : decode cX6_putField 50 = .ok (.istore 5, 2) := by decide +kernel
theorem dX6_putField_52 : decode cX6_putField 52 = .ok (.aload_n 0, 1) := by decide +kernel
theorem dX6_putField_53 : decode cX6_putField 53 = .ok (.iload 4, 2) := by decide +kernel
theorem dX6_putField_55 : decode cX6_putField 55 = .ok (.ifCond .eq 11, 3) := by decide +kernel
theorem dX6_putField_58 : decode cX6_putField 58 = .ok (.iload 5, 2) := by decide +kernel
theorem dX6_putField_60 : decode cX6_putField 60 = .ok (.invokestatic 150, 3) := by decide +kernel
theorem dX6_putField_63 : decode cX6_putField 63 = .ok (.goto 5, 3) := by decide +kernel
theorem dX6_putField_66 : decode cX6_putField 66 = .ok (.iload 5, 2) := by decide +kernel
theorem dX6_putField_68 : decode cX6_putField 68 = .ok (.invokevirtual 86, 3) := by decide +kernel
theorem dX6_putField_71 : decode cX6_putField 71 = .ok (.iinc 3 1, 3) := by decide +kernel
theorem dX6_putField_74 : decode cX6_putField 74 = .ok (.goto (-60), 3) := by decide +kernel
theorem dX6_putField_77 : decode cX6_putField 77 = .ok (.return_, 1) := by decide +kernel
theorem dX6_putAddress_0 : decode cX6_putAddress 0 = .ok (.iload_n 2, 1) := by decide +kernel
theorem dX6_putAddress_1 : decode cX6_putAddress 1 = .ok (.ifCond .ne 8, 3) := by decide +kernel
theorem dX6_putAddress_4 : decode cX6_putAddress 4 = .ok (.aload_n 0, 1) := by decide +kernel
theorem dX6_putAddress_5 : decode cX6_putAddress 5 = .ok (.iconst 3, 1) := by decide +kernel
theorem dX6_putAddress_6 : decode cX6_putAddress 6 = .ok (.putfield 26, 3) := by decide +kernel
theorem dX6_putAddress_9 : decode cX6_putAddress 9 = .ok (.iconst 1, 1) := by decide +kernel
theorem dX6_putAddress_10 : decode cX6_putAddress 10 = .ok (.istore_n 3, 1) := by decide +kernel
theorem dX6_putAddress_11 : decode cX6_putAddress 11 = .ok (.iconst 0, 1) := by decide +kernel
theorem dX6_putAddress_12 : decode cX6_putAddress 12 = .ok (.istore 4, 2) := by decide +kernel
theorem dX6_putAddress_14 : decode cX6_putAddress 14 = .ok (.iload 4, 2) := by decide +kernel
theorem dX6_putAddress_16 : decode cX6_putAddress 16 = .ok (.iconst 5, 1) := by decide +kernel
theorem dX6_putAddress_17 : decode cX6_putAddress 17 = .ok (.if_icmp .ge 46, 3) := by decide +kernel
theorem dX6_putAddress_20 : decode cX6_putAddress 20 = .ok (.iload_n 2, 1) := by decide +kernel
theorem dX6_putAddress_21 : decode cX6_putAddress 21 = .ok (.iload 4, 2) := by decide +kernel
theorem dX6_putAddress_23 : decode cX6_putAddress 23 = .ok (.ishr, 1) := by decide +kernel
theorem dX6_putAddress_24 : decode cX6_putAddress 24 = .ok (.iconst 1, 1) := by decide +kernel
theorem dX6_putAddress_25 : decode cX6_putAddress 25 = .ok (.iand, 1) := by decide +kernel
theorem dX6_putAddress_26 : decode cX6_putAddress 26 = .ok (.ifCond .ne 6, 3) := by decide +kernel
theorem dX6_putAddress_29 : decode cX6_putAddress 29 = .ok (.goto 28, 3) := by decide +kernel
theorem dX6_putAddress_32 : decode cX6_putAddress 32 = .ok (.iload_n 3, 1) := by decide +kernel
theorem dX6_putAddress_33 : decode cX6_putAddress 33 = .ok (.ifCond .ne 9, 3) := by decide +kernel
theorem dX6_putAddress_36 : decode cX6_putAddress 36 = .ok (.aload_n 0, 1) := by decide +kernel
theorem dX6_putAddress_37 : decode cX6_putAddress 37 = .ok (.bipush 47, 2) := by decide +kernel
theorem dX6_putAddress_39 : decode cX6_putAddress 39 = .ok (.invokevirtual 86, 3) := by decide +kernel
theorem dX6_putAddress_42 : decode cX6_putAddress 42 = .ok (.iconst 0, 1) := by decide +kernel
theorem dX6_putAddress_43 : decode cX6_putAddress 43 = .ok (.istore_n 3, 1) := by decide +kernel
theorem dX6_putAddress_44 : decode cX6_putAddress 44 = .ok (.aload_n 0, 1) := by decide +kernel
theorem dX6_putAddress_45 : decode cX6_putAddress 45 = .ok (.aload_n 1, 1) := by decide +kernel
theorem dX6_putAddress_46 : decode cX6_putAddress 46 = .ok (.iload 4, 2) := by decide +kernel
theorem dX6_putAddress_48 : decode cX6_putAddress 48 = .ok (.invokevirtual 109, 3) := by decide +kernel
theorem dX6_putAddress_51 : decode cX6_putAddress 51 = .ok (.getfield 154, 3) := by decide +kernel
theorem dX6_putAddress_54 : decode cX6_putAddress 54 = .ok (.invokevirtual 127, 3) := by decide +kernel
theorem dX6_putAddress_57 : decode cX6_putAddress 57 = .ok (.iinc 4 1, 3) := by decide +kernel
theorem dX6_putAddress_60 : decode cX6_putAddress 60 = .ok (.goto (-46), 3) := by decide +kernel
theorem dX6_putAddress_63 : decode cX6_putAddress 63 = .ok (.return_, 1) := by decide +kernel
theorem dX6_explain_0 : decode cX6_explain 0 = .ok (.aload_n 2, 1) := by decide +kernel
theorem dX6_explain_1 : decode cX6_explain 1 = .ok (.astore_n 3, 1) := by decide +kernel
theorem dX6_explain_2 : decode cX6_explain 2 = .ok (.aload_n 2, 1) := by decide +kernel
theorem dX6_explain_3 : decode cX6_explain 3 = .ok (.getfield 156, 3) := by decide +kernel
theorem dX6_explain_6 : decode cX6_explain 6 = .ok (.iconst 4, 1) := by decide +kernel
theorem dX6_explain_7 : decode cX6_explain 7 = .ok (.invokestatic 43, 3) := by decide +kernel
theorem dX6_explain_10 : decode cX6_explain 10 = .ok (.istore 4, 2) := by decide +kernel
theorem dX6_explain_12 : decode cX6_explain 12 = .ok (.iload 4, 2) := by decide +kernel
theorem dX6_explain_14 : decode cX6_explain 14 = .ok (.ifCond .lt 43, 3) := by decide +kernel
theorem dX6_explain_17 : decode cX6_explain 17 = .ok (.aload_n 3, 1) := by decide +kernel
theorem dX6_explain_18 : decode cX6_explain 18 = .ok (.ifnull 39, 3) := by decide +kernel
theorem dX6_explain_21 : decode cX6_explain 21 = .ok (.aload_n 0, 1) := by decide +kernel
theorem dX6_explain_22 : decode cX6_explain 22 = .ok (.getfield 15, 3) := by decide +kernel
theorem dX6_explain_25 : decode cX6_explain 25 = .ok (.iload 4, 2) := by decide +kernel
theorem dX6_explain_27 : decode cX6_explain 27 = .ok (.aload_n 3, 1) := by decide +kernel
theorem dX6_explain_28 : decode cX6_explain 28 = .ok (.getfield 159, 3) := by decide +kernel
theorem dX6_explain_31 : decode cX6_explain 31 = .ok (.iastore, 1) := by decide +kernel
theorem dX6_explain_32 : decode cX6_explain 32 = .ok (.aload_n 1, 1) := by decide +kernel
theorem dX6_explain_33 : decode cX6_explain 33 = .ok (.aload_n 3, 1) := by decide +kernel
theorem dX6_explain_34 : decode cX6_explain 34 = .ok (.getfield 162, 3) := by decide +kernel
theorem dX6_explain_37 : decode cX6_explain 37 = .ok (.invokevirtual 58, 3) := by decide +kernel
theorem dX6_explain_40 : decode cX6_explain 40 = .ok (.astore_n 3, 1) := by decide +kernel
theorem dX6_explain_41 : decode cX6_explain 41 = .ok (.aload_n 0, 1) := by decide +kernel
theorem dX6_explain_42 : decode cX6_explain 42 = .ok (.dup, 1) := by decide +kernel
theorem dX6_explain_43 : decode cX6_explain 43 = .ok (.getfield 23, 3) := by decide +kernel
theorem dX6_explain_46 : decode cX6_explain 46 = .ok (.iconst 1, 1) := by decide +kernel
theorem dX6_explain_47 : decode cX6_explain 47 = .ok (.iadd, 1) := by decide +kernel
theorem dX6_explain_48 : decode cX6_explain 48 = .ok (.putfield 23, 3) := by decide +kernel
theorem dX6_explain_51 : decode cX6_explain 51 = .ok (.iinc 4 (-1), 3) := by decide +kernel
theorem dX6_explain_54 : decode cX6_explain 54 = .ok (.goto (-42), 3) := by decide +kernel
theorem dX6_explain_57 : decode cX6_explain 57 = .ok (.return_, 1) := by decide +kernel
theorem dX7_init_0 : decode cX7_init 0 = .ok (.aload_n 0, 1) := by decide +kernel
theorem dX7_init_1 : decode cX7_init 1 = .ok (.invokespecial 3, 3) := by decide +kernel
theorem dX7_init_4 : decode cX7_init 4 = .ok (.aload_n 0, 1) := by decide +kernel
theorem dX7_init_5 : decode cX7_init 5 = .ok (.iconst 0, 1) := by decide +kernel
theorem dX7_init_6 : decode cX7_init 6 = .ok (.putfield 9, 3) := by decide +kernel
theorem dX7_init_9 : decode cX7_init 9 = .ok (.aload_n 0, 1) := by decide +kernel
theorem dX7_init_10 : decode cX7_init 10 = .ok (.iconst 4, 1) := by decide +kernel
theorem dX7_init_11 : decode cX7_init 11 = .ok (.newarray .int, 2) := by decide +kernel
theorem dX7_init_13 : decode cX7_init 13 = .ok (.putfield 15, 3) := by decide +kernel
theorem dX7_init_16 : decode cX7_init 16 = .ok (.aload_n 0, 1) := by decide +kernel
theorem dX7_init_17 : decode cX7_init 17 = .ok (.iconst 0, 1) := by decide +kernel
theorem dX7_init_18 : decode cX7_init 18 = .ok (.putfield 19, 3) := by decide +kernel
theorem dX7_init_21 : decode cX7_init 21 = .ok (.aload_n 0, 1) := by decide +kernel
theorem dX7_init_22 : decode cX7_init 22 = .ok (.iconst 0, 1) := by decide +kernel
theorem dX7_init_23 : decode cX7_init 23 = .ok (.putfield 22, 3) := by decide +kernel
theorem dX7_init_26 : decode cX7_init 26 = .ok (.aload_n 0, 1) := by decide +kernel
theorem dX7_init_27 : decode cX7_init 27 = .ok (.aload_n 1, 1) := by decide +kernel
theorem dX7_init_28 : decode cX7_init 28 = .ok (.putfield 26, 3) := by decide +kernel
theorem dX7_init_31 : decode cX7_init 31 = .ok (.aload_n 0, 1) := by decide +kernel
theorem dX7_init_32 : decode cX7_init 32 = .ok (.new 30, 3) := by decide +kernel
theorem dX7_init_35 : decode cX7_init 35 = .ok (.dup, 1) := by decide +kernel
theorem dX7_init_36 : decode cX7_init 36 = .ok (.aload_n 1, 1) := by decide +kernel
theorem dX7_init_37 : decode cX7_init 37 = .ok (.invokevirtual 32, 3) := by decide +kernel
theorem dX7_init_40 : decode cX7_init 40 = .ok (.invokespecial 38, 3) := by decide +kernel
theorem dX7_init_43 : decode cX7_init 43 = .ok (.putfield 41, 3) := by decide +kernel
theorem dX7_init_46 : decode cX7_init 46 = .ok (.return_, 1) := by decide +kernel
theorem dX7_readAll_0 : decode cX7_readAll 0 = .ok (.iconst 0, 1) := by decide +kernel
theorem dX7_readAll_1 : decode cX7_readAll 1 = .ok (.istore_n 1, 1) := by decide +kernel
theorem dX7_readAll_2 : decode cX7_readAll 2 = .ok (.iload_n 1, 1) := by decide +kernel
theorem dX7_readAll_3 : decode cX7_readAll 3 = .ok (.aload_n 0, 1) := by decide +kernel
theorem dX7_readAll_4 : decode cX7_readAll 4 = .ok (.getfield 26, 3) := by decide +kernel
theorem dX7_readAll_7 : decode cX7_readAll 7 = .ok (.invokevirtual 32, 3) := by decide +kernel
theorem dX7_readAll_10 : decode cX7_readAll 10 = .ok (.if_icmp .ge 147, 3) := by decide +kernel
theorem dX7_readAll_13 : decode cX7_readAll 13 = .ok (.aload_n 0, 1) := by decide +kernel
theorem dX7_readAll_14 : decode cX7_readAll 14 = .ok (.getfield 9, 3) := by decide +kernel
theorem dX7_readAll_17 : decode cX7_readAll 17 = .ok (.aload_n 0, 1) := by decide +kernel
theorem dX7_readAll_18 : decode cX7_readAll 18 = .ok (.getfield 26, 3) := by decide +kernel
theorem dX7_readAll_21 : decode cX7_readAll 21 = .ok (.invokevirtual 32, 3) := by decide +kernel
theorem dX7_readAll_24 : decode cX7_readAll 24 = .ok (.if_icmp .ge 133, 3) := by decide +kernel
theorem dX7_readAll_27 : decode cX7_readAll 27 = .ok (.aload_n 0, 1) := by decide +kernel
theorem dX7_readAll_28 : decode cX7_readAll 28 = .ok (.getfield 22, 3) := by decide +kernel
theorem dX7_readAll_31 : decode cX7_readAll 31 = .ok (.ifCond .ne 126, 3) := by decide +kernel
theorem dX7_readAll_34 : decode cX7_readAll 34 = .ok (.aload_n 0, 1) := by decide +kernel
theorem dX7_readAll_35 : decode cX7_readAll 35 = .ok (.invokevirtual 45, 3) := by decide +kernel
theorem dX7_readAll_38 : decode cX7_readAll 38 = .ok (.istore_n 2, 1) := by decide +kernel
theorem dX7_readAll_39 : decode cX7_readAll 39 = .ok (.iload_n 2, 1) := by decide +kernel
theorem dX7_readAll_40 : decode cX7_readAll 40 = .ok (.lookupswitch 106 #[(35, 60), (60, 85), (64, 69), (91, 92), (93, 99), (123, 78)], 60) := by decide +kernel
theorem dX7_readAll_100 : decode cX7_readAll 100 = .ok (.aload_n 0, 1) := by decide +kernel
theorem dX7_readAll_101 : decode cX7_readAll 101 = .ok (.iconst 1, 1) := by decide +kernel
theorem dX7_readAll_102 : decode cX7_readAll 102 = .ok (.invokevirtual 48, 3) := by decide +kernel
theorem dX7_readAll_105 : decode cX7_readAll 105 = .ok (.pop, 1) := by decide +kernel
theorem dX7_readAll_106 : decode cX7_readAll 106 = .ok (.goto 45, 3) := by decide +kernel
theorem dX7_readAll_109 : decode cX7_readAll 109 = .ok (.aload_n 0, 1) := by decide +kernel
theorem dX7_readAll_110 : decode cX7_readAll 110 = .ok (.iconst 2, 1) := by decide +kernel
theorem dX7_readAll_111 : decode cX7_readAll 111 = .ok (.invokevirtual 48, 3) := by decide +kernel
theorem dX7_readAll_114 : decode cX7_readAll 114 = .ok (.pop, 1) := by decide +kernel
theorem dX7_readAll_115 : decode cX7_readAll 115 = .ok (.goto 36, 3) := by decide +kernel
theorem dX7_readAll_118 : decode cX7_readAll 118 = .ok (.aload_n 0, 1) := by decide +kernel
theorem dX7_readAll_119 : decode cX7_readAll 119 = .ok (.invokevirtual 52, 3) := by decide +kernel
theorem dX7_readAll_122 : decode cX7_readAll 122 = .ok (.goto 29, 3) := by decide +kernel
theorem dX7_readAll_125 : decode cX7_readAll 125 = .ok (.aload_n 0, 1) := by decide +kernel
theorem dX7_readAll_126 : decode cX7_readAll 126 = .ok (.invokevirtual 55, 3) := by decide +kernel
theorem dX7_readAll_129 : decode cX7_readAll 129 = .ok (.goto 22, 3) := by decide +kernel
theorem dX7_readAll_132 : decode cX7_readAll 132 = .ok (.aload_n 0, 1) := by decide +kernel
theorem dX7_readAll_133 : decode cX7_readAll 133 = .ok (.invokevirtual 58, 3) := by decide +kernel
theorem dX7_readAll_136 : decode cX7_readAll 136 = .ok (.goto 15, 3) := by decide +kernel
theorem dX7_readAll_139 : decode cX7_readAll 139 = .ok (.aload_n 0, 1) := by decide +kernel
theorem dX7_readAll_140 : decode cX7_readAll 140 = .ok (.invokevirtual 61, 3) := by decide +kernel
theorem dX7_readAll_143 : decode cX7_readAll 143 = .ok (.goto 8, 3) := by decide +kernel
theorem dX7_readAll_146 : decode cX7_readAll 146 = .ok (.aload_n 0, 1) := by decide +kernel
theorem dX7_readAll_147 : decode cX7_readAll 147 = .ok (.iload_n 2, 1) := by decide +kernel
theorem dX7_readAll_148 : decode cX7_readAll 148 = .ok (.invokevirtual 64, 3) := by decide +kernel
theorem dX7_readAll_151 : decode cX7_readAll 151 = .ok (.iinc 1 1, 3) := by decide +kernel
theorem dX7_readAll_154 : decode cX7_readAll 154 = .ok (.goto (-152), 3) := by decide +kernel
theorem dX7_readAll_157 : decode cX7_readAll 157 = .ok (.aload_n 0, 1) := by decide +kernel
theorem dX7_readAll_158 : decode cX7_readAll 158 = .ok (.getfield 22, 3) := by decide +kernel
theorem dX7_readAll_161 : decode cX7_readAll 161 = .ok (.ifCond .ne 14, 3) := by decide +kernel
theorem dX7_readAll_164 : decode cX7_readAll 164 = .ok (.aload_n 0, 1) := by decide +kernel
theorem dX7_readAll_165 : decode cX7_readAll 165 = .ok (.getfield 19, 3) := by decide +kernel
theorem dX7_readAll_168 : decode cX7_readAll 168 = .ok (.ifCond .ne 7, 3) := by decide +kernel
theorem dX7_readAll_171 : decode cX7_readAll 171 = .ok (.iconst 1, 1) := by decide +kernel
theorem dX7_readAll_172 : decode cX7_readAll 172 = .ok (.goto 4, 3) := by decide +kernel
theorem dX7_readAll_175 : decode cX7_readAll 175 = .ok (.iconst 0, 1) := by decide +kernel
theorem dX7_readAll_176 : decode cX7_readAll 176 = .ok (.ireturn, 1) := by decide +kernel
theorem dX7_readLiteral_0 : decode cX7_readLiteral 0 = .ok (.iload_n 1, 1) := by decide +kernel
theorem dX7_readLiteral_1 : decode cX7_readLiteral 1 = .ok (.invokestatic 67, 3) := by decide +kernel
theorem dX7_readLiteral_4 : decode cX7_readLiteral 4 = .ok (.ifCond .eq 16, 3) := by decide +kernel
theorem dX7_readLiteral_7 : decode cX7_readLiteral 7 = .ok (.aload_n 0, 1) := by decide +kernel
theorem dX7_readLiteral_8 : decode cX7_readLiteral 8 = .ok (.iconst 0, 1) := by decide +kernel
theorem dX7_readLiteral_9 : decode cX7_readLiteral 9 = .ok (.invokevirtual 48, 3) := by decide +kernel
theorem dX7_readLiteral_12 : decode cX7_readLiteral 12 = .ok (.iload_n 1, 1) := by decide +kernel
theorem dX7_readLiteral_13 : decode cX7_readLiteral 13 = .ok (.i2c, 1) := by decide +kernel
theorem dX7_readLiteral_14 : decode cX7_readLiteral 14 = .ok (.putfield 71, 3) := by decide +kernel
theorem dX7_readLiteral_17 : decode cX7_readLiteral 17 = .ok (.goto 8, 3) := by decide +kernel
theorem dX7_readLiteral_20 : decode cX7_readLiteral 20 = .ok (.aload_n 0, 1) := by decide +kernel
theorem dX7_readLiteral_21 : decode cX7_readLiteral 21 = .ok (.iconst 1, 1) := by decide +kernel
theorem dX7_readLiteral_22 : decode cX7_readLiteral 22 = .ok (.putfield 22, 3) := by decide +kernel
theorem dX7_readLiteral_25 : decode cX7_readLiteral 25 = .ok (.return_, 1) := by decide +kernel
theorem dX7_readBraces_0 : decode cX7_readBraces 0 = .ok (.aload_n 0, 1) := by decide +kernel
theorem dX7_readBraces_1 : decode cX7_readBraces 1 = .ok (.iconst 3, 1) := by decide +kernel
theorem dX7_readBraces_2 : decode cX7_readBraces 2 = .ok (.invokevirtual 48, 3) := by decide +kernel
theorem dX7_readBraces_5 : decode cX7_readBraces 5 = .ok (.astore_n 1, 1) := by decide +kernel
theorem dX7_readBraces_6 : decode cX7_readBraces 6 = .ok (.aload_n 1, 1) := by decide +kernel
theorem dX7_readBraces_7 : decode cX7_readBraces 7 = .ok (.aload_n 0, 1) := by decide +kernel
theorem dX7_readBraces_8 : decode cX7_readBraces 8 = .ok (.invokevirtual 76, 3) := by decide +kernel
theorem dX7_readBraces_11 : decode cX7_readBraces 11 = .ok (.putfield 79, 3) := by decide +kernel
theorem dX7_readBraces_14 : decode cX7_readBraces 14 = .ok (.aload_n 0, 1) := by decide +kernel
theorem dX7_readBraces_15 : decode cX7_readBraces 15 = .ok (.getfield 22, 3) := by decide +kernel
theorem dX7_readBraces_18 : decode cX7_readBraces 18 = .ok (.ifCond .ne 40, 3) := by decide +kernel
theorem dX7_readBraces_21 : decode cX7_readBraces 21 = .ok (.aload_n 0, 1) := by decide +kernel
theorem dX7_readBraces_22 : decode cX7_readBraces 22 = .ok (.invokevirtual 45, 3) := by decide +kernel
theorem dX7_readBraces_25 : decode cX7_readBraces 25 = .ok (.bipush 94, 2) := by decide +kernel
theorem dX7_readBraces_27 : decode cX7_readBraces 27 = .ok (.if_icmp .eq 12, 3) := by decide +kernel
theorem dX7_readBraces_30 : decode cX7_readBraces 30 = .ok (.aload_n 0, 1) := by decide +kernel
theorem dX7_readBraces_31 : decode cX7_readBraces 31 = .ok (.invokevirtual 45, 3) := by decide +kernel
theorem dX7_readBraces_34 : decode cX7_readBraces 34 = .ok (.bipush 42, 2) := by decide +kernel
theorem dX7_readBraces_36 : decode cX7_readBraces 36 = .ok (.if_icmp .ne 22, 3) := by decide +kernel
theorem dX7_readBraces_39 : decode cX7_readBraces 39 = .ok (.aload_n 1, 1) := by decide +kernel
theorem dX7_readBraces_40 : decode cX7_readBraces 40 = .ok (.aload_n 0, 1) := by decide +kernel
theorem dX7_readBraces_41 : decode cX7_readBraces 41 = .ok (.invokevirtual 45, 3) := by decide +kernel
theorem dX7_readBraces_44 : decode cX7_readBraces 44 = .ok (.i2c, 1) := by decide +kernel
theorem dX7_readBraces_45 : decode cX7_readBraces 45 = .ok (.putfield 82, 3) := by decide +kernel
theorem dX7_readBraces_48 : decode cX7_readBraces 48 = .ok (.aload_n 0, 1) := by decide +kernel
theorem dX7_readBraces_49 : decode cX7_readBraces 49 = .ok (.dup, 1) := by decide +kernel
theorem dX7_readBraces_50 : decode cX7_readBraces 50 = .ok (.getfield 9, 3) := by decide +kernel
theorem dX7_readBraces_53 : decode cX7_readBraces 53 = .ok (.iconst 1, 1) := by decide +kernel
theorem dX7_readBraces_54 : decode cX7_readBraces 54 = .ok (.iadd, 1) := by decide +kernel
theorem dX7_readBraces_55 : decode cX7_readBraces 55 = .ok (.putfield 9, 3) := by decide +kernel
theorem dX7_readBraces_58 : decode cX7_readBraces 58 = .ok (.aload_n 0, 1) := by decide +kernel
theorem dX7_readBraces_59 : decode cX7_readBraces 59 = .ok (.bipush 125, 2) := by decide +kernel
theorem dX7_readBraces_61 : decode cX7_readBraces 61 = .ok (.invokevirtual 85, 3) := by decide +kernel
theorem dX7_readBraces_64 : decode cX7_readBraces 64 = .ok (.return_, 1) := by decide +kernel
theorem dX7_readWords_0 : decode cX7_readWords 0 = .ok (.aload_n 0, 1) := by decide +kernel
theorem dX7_readWords_1 : decode cX7_readWords 1 = .ok (.iconst 4, 1) := by decide +kernel
theorem dX7_readWords_2 : decode cX7_readWords 2 = .ok (.invokevirtual 48, 3) := by decide +kernel
theorem dX7_readWords_5 : decode cX7_readWords 5 = .ok (.astore_n 1, 1) := by decide +kernel
theorem dX7_readWords_6 : decode cX7_readWords 6 = .ok (.aload_n 1, 1) := by decide +kernel
theorem dX7_readWords_7 : decode cX7_readWords 7 = .ok (.aload_n 0, 1) := by decide +kernel
theorem dX7_readWords_8 : decode cX7_readWords 8 = .ok (.invokevirtual 89, 3) := by decide +kernel
theorem dX7_readWords_11 : decode cX7_readWords 11 = .ok (.putfield 93, 3) := by decide +kernel
theorem dX7_readWords_14 : decode cX7_readWords 14 = .ok (.aload_n 0, 1) := by decide +kernel
theorem dX7_readWords_15 : decode cX7_readWords 15 = .ok (.bipush 124, 2) := by decide +kernel
theorem dX7_readWords_17 : decode cX7_readWords 17 = .ok (.invokevirtual 85, 3) := by decide +kernel
theorem dX7_readWords_20 : decode cX7_readWords 20 = .ok (.aload_n 1, 1) := by decide +kernel
theorem dX7_readWords_21 : decode cX7_readWords 21 = .ok (.aload_n 0, 1) := by decide +kernel
theorem dX7_readWords_22 : decode cX7_readWords 22 = .ok (.invokevirtual 89, 3) := by decide +kernel
theorem dX7_readWords_25 : decode cX7_readWords 25 = .ok (.putfield 96, 3) := by decide +kernel
theorem dX7_readWords_28 : decode cX7_readWords 28 = .ok (.aload_n 0, 1) := by decide +kernel
theorem dX7_readWords_29 : decode cX7_readWords 29 = .ok (.bipush 62, 2) := by decide +kernel
theorem dX7_readWords_31 : decode cX7_readWords 31 = .ok (.invokevirtual 85, 3) := by decide +kernel
theorem dX7_readWords_34 : decode cX7_readWords 34 = .ok (.return_, 1) := by decide +kernel
theorem dX7_openBrackets_0 : decode cX7_openBrackets 0 = .ok (.aload_n 0, 1) := by decide +kernel
theorem dX7_openBrackets_1 : decode cX7_openBrackets 1 = .ok (.getfield 19, 3) := by decide +kernel
theorem dX7_openBrackets_4 : decode cX7_openBrackets 4 = .ok (.aload_n 0, 1) := by decide +kernel
theorem dX7_openBrackets_5 : decode cX7_openBrackets 5 = .ok (.getfield 15, 3) := by decide +kernel
theorem dX7_openBrackets_8 : decode cX7_openBrackets 8 = .ok (.arraylength, 1) := by decide +kernel
theorem dX7_openBrackets_9 : decode cX7_openBrackets 9 = .ok (.if_icmp .lt 9, 3) := by decide +kernel
theorem dX7_openBrackets_12 : decode cX7_openBrackets 12 = .ok (.aload_n 0, 1) := by decide +kernel
theorem dX7_openBrackets_13 : decode cX7_openBrackets 13 = .ok (.iconst 1, 1) := by decide +kernel
theorem dX7_openBrackets_14 : decode cX7_openBrackets 14 = .ok (.putfield 22, 3) := by decide +kernel
theorem dX7_openBrackets_17 : decode cX7_openBrackets 17 = .ok (.return_, 1) := by decide +kernel
theorem dX7_openBrackets_18 : decode cX7_openBrackets 18 = .ok (.aload_n 0, 1) := by decide +kernel
theorem dX7_openBrackets_19 : decode cX7_openBrackets 19 = .ok (.iconst 5, 1) := by decide +kernel
theorem dX7_openBrackets_20 : decode cX7_openBrackets 20 = .ok (.invokevirtual 48, 3) := by decide +kernel
theorem dX7_openBrackets_23 : decode cX7_openBrackets 23 = .ok (.astore_n 1, 1) := by decide +kernel
theorem dX7_openBrackets_24 : decode cX7_openBrackets 24 = .ok (.aload_n 1, 1) := by decide +kernel
theorem dX7_openBrackets_25 : decode cX7_openBrackets 25 = .ok (.aload_n 0, 1) := by decide +kernel
theorem dX7_openBrackets_26 : decode cX7_openBrackets 26 = .ok (.aconst_null, 1) := by decide +kernel
theorem dX7_openBrackets_27 : decode cX7_openBrackets 27 = .ok (.invokevirtual 99, 3) := by decide +kernel
theorem dX7_openBrackets_30 : decode cX7_openBrackets 30 = .ok (.putfield 103, 3) := by decide +kernel
theorem dX7_openBrackets_33 : decode cX7_openBrackets 33 = .ok (.iconst 0, 1) := by decide +kernel
theorem dX7_openBrackets_34 : decode cX7_openBrackets 34 = .ok (.istore_n 2, 1) := by decide +kernel
theorem dX7_openBrackets_35 : decode cX7_openBrackets 35 = .ok (.iload_n 2, 1) := by decide +kernel
theorem dX7_openBrackets_36 : decode cX7_openBrackets 36 = .ok (.aload_n 0, 1) := by decide +kernel
theorem dX7_openBrackets_37 : decode cX7_openBrackets 37 = .ok (.getfield 26, 3) := by decide +kernel
theorem dX7_openBrackets_40 : decode cX7_openBrackets 40 = .ok (.invokevirtual 32, 3) := by decide +kernel
theorem dX7_openBrackets_43 : decode cX7_openBrackets 43 = .ok (.if_icmp .ge 47, 3) := by decide +kernel
theorem dX7_openBrackets_46 : decode cX7_openBrackets 46 = .ok (.aload_n 0, 1) := by decide +kernel
theorem dX7_openBrackets_47 : decode cX7_openBrackets 47 = .ok (.getfield 22, 3) := by decide +kernel
theorem dX7_openBrackets_50 : decode cX7_openBrackets 50 = .ok (.ifCond .ne 40, 3) := by decide +kernel
theorem dX7_openBrackets_53 : decode cX7_openBrackets 53 = .ok (.aload_n 0, 1) := by decide +kernel
theorem dX7_openBrackets_54 : decode cX7_openBrackets 54 = .ok (.invokevirtual 45, 3) := by decide +kernel
theorem dX7_openBrackets_57 : decode cX7_openBrackets 57 = .ok (.bipush 38, 2) := by decide +kernel
theorem dX7_openBrackets_59 : decode cX7_openBrackets 59 = .ok (.if_icmp .ne 31, 3) := by decide +kernel
theorem dX7_openBrackets_62 : decode cX7_openBrackets 62 = .ok (.aload_n 0, 1) := by decide +kernel
theorem dX7_openBrackets_63 : decode cX7_openBrackets 63 = .ok (.dup, 1) := by decide +kernel
theorem dX7_openBrackets_64 : decode cX7_openBrackets 64 = .ok (.getfield 9, 3) := by decide +kernel
theorem dX7_openBrackets_67 : decode cX7_openBrackets 67 = .ok (.iconst 1, 1) := by decide +kernel
theorem dX7_openBrackets_68 : decode cX7_openBrackets 68 = .ok (.iadd, 1) := by decide +kernel
theorem dX7_openBrackets_69 : decode cX7_openBrackets 69 = .ok (.putfield 9, 3) := by decide +kernel
theorem dX7_openBrackets_72 : decode cX7_openBrackets 72 = .ok (.aload_n 1, 1) := by decide +kernel
theorem dX7_openBrackets_73 : decode cX7_openBrackets 73 = .ok (.aload_n 0, 1) := by decide +kernel
theorem dX7_openBrackets_74 : decode cX7_openBrackets 74 = .ok (.aload_n 1, 1) := by decide +kernel
theorem dX7_openBrackets_75 : decode cX7_openBrackets 75 = .ok (.getfield 103, 3) := by decide +kernel
theorem dX7_openBrackets_78 : decode cX7_openBrackets 78 = .ok (.invokevirtual 99, 3) := by decide +kernel
theorem dX7_openBrackets_81 : decode cX7_openBrackets 81 = .ok (.putfield 103, 3) := by decide +kernel
theorem dX7_openBrackets_84 : decode cX7_openBrackets 84 = .ok (.iinc 2 1, 3) := by decide +kernel
theorem dX7_openBrackets_87 : decode cX7_openBrackets 87 = .ok (.goto (-52), 3) := by decide +kernel
theorem dX7_openBrackets_90 : decode cX7_openBrackets 90 = .ok (.aload_n 0, 1) := by decide +kernel
theorem dX7_openBrackets_91 : decode cX7_openBrackets 91 = .ok (.bipush 58, 2) := by decide +kernel
theorem dX7_openBrackets_93 : decode cX7_openBrackets 93 = .ok (.invokevirtual 85, 3) := by decide +kernel
theorem dX7_openBrackets_96 : decode cX7_openBrackets 96 = .ok (.aload_n 0, 1) := by decide +kernel
theorem dX7_openBrackets_97 : decode cX7_openBrackets 97 = .ok (.getfield 15, 3) := by decide +kernel
theorem dX7_openBrackets_100 : decode cX7_openBrackets 100 = .ok (.aload_n 0, 1) := by decide +kernel
theorem dX7_openBrackets_101 : decode cX7_openBrackets 101 = .ok (.getfield 19, 3) := by decide +kernel
theorem dX7_openBrackets_104 : decode cX7_openBrackets 104 = .ok (.aload_n 0, 1) := by decide +kernel
theorem dX7_openBrackets_105 : decode cX7_openBrackets 105 = .ok (.getfield 41, 3) := by decide +kernel
theorem dX7_openBrackets_108 : decode cX7_openBrackets 108 = .ok (.getfield 107, 3) := by decide +kernel
theorem dX7_openBrackets_111 : decode cX7_openBrackets 111 = .ok (.iconst 1, 1) := by decide +kernel
theorem dX7_openBrackets_112 : decode cX7_openBrackets 112 = .ok (.isub, 1) := by decide +kernel
theorem dX7_openBrackets_113 : decode cX7_openBrackets 113 = .ok (.iastore, 1) := by decide +kernel
theorem dX7_openBrackets_114 : decode cX7_openBrackets 114 = .ok (.aload_n 0, 1) := by decide +kernel
theorem dX7_openBrackets_115 : decode cX7_openBrackets 115 = .ok (.dup, 1) := by decide +kernel
theorem dX7_openBrackets_116 : decode cX7_openBrackets 116 = .ok (.getfield 19, 3) := by decide +kernel
theorem dX7_openBrackets_119 : decode cX7_openBrackets 119 = .ok (.iconst 1, 1) := by decide +kernel
theorem dX7_openBrackets_120 : decode cX7_openBrackets 120 = .ok (.iadd, 1) := by decide +kernel
theorem dX7_openBrackets_121 : decode cX7_openBrackets 121 = .ok (.putfield 19, 3) := by decide +kernel
theorem dX7_openBrackets_124 : decode cX7_openBrackets 124 = .ok (.aload_n 0, 1) := by decide +kernel
theorem dX7_openBrackets_125 : decode cX7_openBrackets 125 = .ok (.getfield 41, 3) := by decide +kernel
theorem dX7_openBrackets_128 : decode cX7_openBrackets 128 = .ok (.aload_n 0, 1) := by decide +kernel
theorem dX7_openBrackets_129 : decode cX7_openBrackets 129 = .ok (.getfield 41, 3) := by decide +kernel
theorem dX7_openBrackets_132 : decode cX7_openBrackets 132 = .ok (.getfield 110, 3) := by decide +kernel
theorem dX7_openBrackets_135 : decode cX7_openBrackets 135 = .ok (.aload_n 0, 1) := by decide +kernel
theorem dX7_openBrackets_136 : decode cX7_openBrackets 136 = .ok (.getfield 19, 3) := by decide +kernel
theorem dX7_openBrackets_139 : decode cX7_openBrackets 139 = .ok (.invokestatic 113, 3) := by decide +kernel
theorem dX7_openBrackets_142 : decode cX7_openBrackets 142 = .ok (.putfield 110, 3) := by decide +kernel
theorem dX7_openBrackets_145 : decode cX7_openBrackets 145 = .ok (.aload_n 0, 1) := by decide +kernel
theorem dX7_openBrackets_146 : decode cX7_openBrackets 146 = .ok (.getfield 41, 3) := by decide +kernel
theorem dX7_openBrackets_149 : decode cX7_openBrackets 149 = .ok (.dup, 1) := by decide +kernel
theorem dX7_openBrackets_150 : decode cX7_openBrackets 150 = .ok (.getfield 119, 3) := by decide +kernel
theorem dX7_openBrackets_153 : decode cX7_openBrackets 153 = .ok (.iconst 1, 1) := by decide +kernel
theorem dX7_openBrackets_154 : decode cX7_openBrackets 154 = .ok (.iadd, 1) := by decide +kernel
theorem dX7_openBrackets_155 : decode cX7_openBrackets 155 = .ok (.putfield 119, 3) := by decide +kernel
theorem dX7_openBrackets_158 : decode cX7_openBrackets 158 = .ok (.return_, 1) := by decide +kernel
theorem dX7_closeBrackets_0 : decode cX7_closeBrackets 0 = .ok (.aload_n 0, 1) := by decide +kernel
theorem dX7_closeBrackets_1 : decode cX7_closeBrackets 1 = .ok (.getfield 19, 3) := by decide +kernel
theorem dX7_closeBrackets_4 : decode cX7_closeBrackets 4 = .ok (.ifCond .le 15, 3) := by decide +kernel
theorem dX7_closeBrackets_7 : decode cX7_closeBrackets 7 = .ok (.aload_n 0, 1) := by decide +kernel
theorem dX7_closeBrackets_8 : decode cX7_closeBrackets 8 = .ok (.getfield 19, 3) := by decide +kernel
theorem dX7_closeBrackets_11 : decode cX7_closeBrackets 11 = .ok (.aload_n 0, 1) := by decide +kernel
theorem dX7_closeBrackets_12 : decode cX7_closeBrackets 12 = .ok (.getfield 15, 3) := by decide +kernel
theorem dX7_closeBrackets_15 : decode cX7_closeBrackets 15 = .ok (.arraylength, 1) := by decide +kernel
theorem dX7_closeBrackets_16 : decode cX7_closeBrackets 16 = .ok (.if_icmp .le 9, 3) := by decide +kernel
theorem dX7_closeBrackets_19 : decode cX7_closeBrackets 19 = .ok (.aload_n 0, 1) := by decide +kernel
theorem dX7_closeBrackets_20 : decode cX7_closeBrackets 20 = .ok (.iconst 1, 1) := by decide +kernel
theorem dX7_closeBrackets_21 : decode cX7_closeBrackets 21 = .ok (.putfield 22, 3) := by decide +kernel
theorem dX7_closeBrackets_24 : decode cX7_closeBrackets 24 = .ok (.return_, 1) := by decide +kernel
theorem dX7_closeBrackets_25 : decode cX7_closeBrackets 25 = .ok (.aload_n 0, 1) := by decide +kernel
theorem dX7_closeBrackets_26 : decode cX7_closeBrackets 26 = .ok (.dup, 1) := by decide +kernel
theorem dX7_closeBrackets_27 : decode cX7_closeBrackets 27 = .ok (.getfield 19, 3) := by decide +kernel
theorem dX7_closeBrackets_30 : decode cX7_closeBrackets 30 = .ok (.iconst 1, 1) := by decide +kernel
theorem dX7_closeBrackets_31 : decode cX7_closeBrackets 31 = .ok (.isub, 1) := by decide +kernel
theorem dX7_closeBrackets_32 : decode cX7_closeBrackets 32 = .ok (.putfield 19, 3) := by decide +kernel
theorem dX7_closeBrackets_35 : decode cX7_closeBrackets 35 = .ok (.aload_n 0, 1) := by decide +kernel
theorem dX7_closeBrackets_36 : decode cX7_closeBrackets 36 = .ok (.getfield 41, 3) := by decide +kernel
theorem dX7_closeBrackets_39 : decode cX7_closeBrackets 39 = .ok (.aload_n 0, 1) := by decide +kernel
theorem dX7_closeBrackets_40 : decode cX7_closeBrackets 40 = .ok (.getfield 15, 3) := by decide +kernel
theorem dX7_closeBrackets_43 : decode cX7_closeBrackets 43 = .ok (.aload_n 0, 1) := by decide +kernel
theorem dX7_closeBrackets_44 : decode cX7_closeBrackets 44 = .ok (.getfield 19, 3) := by decide +kernel
theorem dX7_closeBrackets_47 : decode cX7_closeBrackets 47 = .ok (.iaload, 1) := by decide +kernel
theorem dX7_closeBrackets_48 : decode cX7_closeBrackets 48 = .ok (.invokevirtual 122, 3) := by decide +kernel
theorem dX7_closeBrackets_51 : decode cX7_closeBrackets 51 = .ok (.astore_n 1, 1) := by decide +kernel
theorem dX7_closeBrackets_52 : decode cX7_closeBrackets 52 = .ok (.aload_n 1, 1) := by decide +kernel
theorem dX7_closeBrackets_53 : decode cX7_closeBrackets 53 = .ok (.ifnull 14, 3) := by decide +kernel
theorem dX7_closeBrackets_56 : decode cX7_closeBrackets 56 = .ok (.aload_n 1, 1) := by decide +kernel
theorem dX7_closeBrackets_57 : decode cX7_closeBrackets 57 = .ok (.aload_n 0, 1) := by decide +kernel
theorem dX7_closeBrackets_58 : decode cX7_closeBrackets 58 = .ok (.getfield 41, 3) := by decide +kernel
theorem dX7_closeBrackets_61 : decode cX7_closeBrackets 61 = .ok (.getfield 107, 3) := by decide +kernel
theorem dX7_closeBrackets_64 : decode cX7_closeBrackets 64 = .ok (.putfield 125, 3) := by decide +kernel
theorem dX7_closeBrackets_67 : decode cX7_closeBrackets 67 = .ok (.aload_n 0, 1) := by decide +kernel
theorem dX7_closeBrackets_68 : decode cX7_closeBrackets 68 = .ok (.dup, 1) := by decide +kernel
theorem dX7_closeBrackets_69 : decode cX7_closeBrackets 69 = .ok (.getfield 9, 3) := by decide +kernel
theorem dX7_closeBrackets_72 : decode cX7_closeBrackets 72 = .ok (.iconst 1, 1) := by decide +kernel
theorem dX7_closeBrackets_73 : decode cX7_closeBrackets 73 = .ok (.iadd, 1) := by decide +kernel
theorem dX7_closeBrackets_74 : decode cX7_closeBrackets 74 = .ok (.putfield 9, 3) := by decide +kernel
theorem dX7_closeBrackets_77 : decode cX7_closeBrackets 77 = .ok (.return_, 1) := by decide +kernel
theorem dX7_readCondition_0 : decode cX7_readCondition 0 = .ok (.aload_n 0, 1) := by decide +kernel
theorem dX7_readCondition_1 : decode cX7_readCondition 1 = .ok (.invokevirtual 45, 3) := by decide +kernel
theorem dX7_readCondition_4 : decode cX7_readCondition 4 = .ok (.bipush 33, 2) := by decide +kernel
theorem dX7_readCondition_6 : decode cX7_readCondition 6 = .ok (.if_icmp .ne 7, 3) := by decide +kernel
theorem dX7_readCondition_9 : decode cX7_readCondition 9 = .ok (.iconst 1, 1) := by decide +kernel
theorem dX7_readCondition_10 : decode cX7_readCondition 10 = .ok (.goto 4, 3) := by decide +kernel
theorem dX7_readCondition_13 : decode cX7_readCondition 13 = .ok (.iconst 0, 1) := by decide +kernel
theorem dX7_readCondition_14 : decode cX7_readCondition 14 = .ok (.istore_n 2, 1) := by decide +kernel
theorem dX7_readCondition_15 : decode cX7_readCondition 15 = .ok (.aload_n 0, 1) := by decide +kernel
theorem dX7_readCondition_16 : decode cX7_readCondition 16 = .ok (.dup, 1) := by decide +kernel
theorem dX7_readCondition_17 : decode cX7_readCondition 17 = .ok (.getfield 9, 3) := by decide +kernel
theorem dX7_readCondition_20 : decode cX7_readCondition 20 = .ok (.iload_n 2, 1) := by decide +kernel
theorem dX7_readCondition_21 : decode cX7_readCondition 21 = .ok (.ifCond .eq 7, 3) := by decide +kernel
theorem dX7_readCondition_24 : decode cX7_readCondition 24 = .ok (.iconst 1, 1) := by decide +kernel
theorem dX7_readCondition_25 : decode cX7_readCondition 25 = .ok (.goto 4, 3) := by decide +kernel
theorem dX7_readCondition_28 : decode cX7_readCondition 28 = .ok (.iconst 0, 1) := by decide +kernel
theorem dX7_readCondition_29 : decode cX7_readCondition 29 = .ok (.iadd, 1) := by decide +kernel
theorem dX7_readCondition_30 : decode cX7_readCondition 30 = .ok (.putfield 9, 3) := by decide +kernel
theorem dX7_readCondition_33 : decode cX7_readCondition 33 = .ok (.aload_n 0, 1) := by decide +kernel
theorem dX7_readCondition_34 : decode cX7_readCondition 34 = .ok (.invokevirtual 45, 3) := by decide +kernel
theorem dX7_readCondition_37 : decode cX7_readCondition 37 = .ok (.istore_n 3, 1) := by decide +kernel
theorem dX7_readCondition_38 : decode cX7_readCondition 38 = .ok (.iload_n 3, 1) := by decide +kernel
theorem dX7_readCondition_39 : decode cX7_readCondition 39 = .ok (.bipush 103, 2) := by decide +kernel
theorem dX7_readCondition_41 : decode cX7_readCondition 41 = .ok (.if_icmp .ne 31, 3) := by decide +kernel
theorem dX7_readCondition_44 : decode cX7_readCondition 44 = .ok (.aload_n 0, 1) := by decide +kernel
theorem dX7_readCondition_45 : decode cX7_readCondition 45 = .ok (.dup, 1) := by decide +kernel
theorem dX7_readCondition_46 : decode cX7_readCondition 46 = .ok (.getfield 9, 3) := by decide +kernel
theorem dX7_readCondition_49 : decode cX7_readCondition 49 = .ok (.iconst 1, 1) := by decide +kernel
theorem dX7_readCondition_50 : decode cX7_readCondition 50 = .ok (.iadd, 1) := by decide +kernel
theorem dX7_readCondition_51 : decode cX7_readCondition 51 = .ok (.putfield 9, 3) := by decide +kernel
theorem dX7_readCondition_54 : decode cX7_readCondition 54 = .ok (.new 128, 3) := by decide +kernel
theorem dX7_readCondition_57 : decode cX7_readCondition 57 = .ok (.dup, 1) := by decide +kernel
theorem dX7_readCondition_58 : decode cX7_readCondition 58 = .ok (.iload_n 2, 1) := by decide +kernel
theorem dX7_readCondition_59 : decode cX7_readCondition 59 = .ok (.bipush 103, 2) := by decide +kernel
theorem dX7_readCondition_61 : decode cX7_readCondition 61 = .ok (.aload_n 0, 1) := by decide +kernel
theorem dX7_readCondition_62 : decode cX7_readCondition 62 = .ok (.bipush 9, 2) := by decide +kernel
theorem dX7_readCondition_64 : decode cX7_readCondition 64 = .ok (.invokevirtual 130, 3) := by decide +kernel
theorem dX7_readCondition_67 : decode cX7_readCondition 67 = .ok (.aload_n 1, 1) := by decide +kernel
theorem dX7_readCondition_68 : decode cX7_readCondition 68 = .ok (.invokespecial 134, 3) := by decide +kernel
theorem dX7_readCondition_71 : decode cX7_readCondition 71 = .ok (.areturn, 1) := by decide +kernel
theorem dX7_readCondition_72 : decode cX7_readCondition 72 = .ok (.iload_n 3, 1) := by decide +kernel
theorem dX7_readCondition_73 : decode cX7_readCondition 73 = .ok (.bipush 110, 2) := by decide +kernel
theorem dX7_readCondition_75 : decode cX7_readCondition 75 = .ok (.if_icmp .ne 35, 3) := by decide +kernel
theorem dX7_readCondition_78 : decode cX7_readCondition 78 = .ok (.aload_n 0, 1) := by decide +kernel
theorem dX7_readCondition_79 : decode cX7_readCondition 79 = .ok (.dup, 1) := by decide +kernel
theorem dX7_readCondition_80 : decode cX7_readCondition 80 = .ok (.getfield 9, 3) := by decide +kernel
theorem dX7_readCondition_83 : decode cX7_readCondition 83 = .ok (.iconst 1, 1) := by decide +kernel
theorem dX7_readCondition_84 : decode cX7_readCondition 84 = .ok (.iadd, 1) := by decide +kernel
theorem dX7_readCondition_85 : decode cX7_readCondition 85 = .ok (.putfield 9, 3) := by decide +kernel
theorem dX7_readCondition_88 : decode cX7_readCondition 88 = .ok (.aload_n 0, 1) := by decide +kernel
theorem dX7_readCondition_89 : decode cX7_readCondition 89 = .ok (.invokevirtual 137, 3) := by decide +kernel
theorem dX7_readCondition_92 : decode cX7_readCondition 92 = .ok (.istore 4, 2) := by decide +kernel
theorem dX7_readCondition_94 : decode cX7_readCondition 94 = .ok (.new 128, 3) := by decide +kernel
theorem dX7_readCondition_97 : decode cX7_readCondition 97 = .ok (.dup, 1) := by decide +kernel
theorem dX7_readCondition_98 : decode cX7_readCondition 98 = .ok (.iload_n 2, 1) := by decide +kernel
theorem dX7_readCondition_99 : decode cX7_readCondition 99 = .ok (.iload 4, 2) := by decide +kernel
theorem dX7_readCondition_101 : decode cX7_readCondition 101 = .ok (.aload_n 0, 1) := by decide +kernel
theorem dX7_readCondition_102 : decode cX7_readCondition 102 = .ok (.invokevirtual 140, 3) := by decide +kernel
theorem dX7_readCondition_105 : decode cX7_readCondition 105 = .ok (.aload_n 1, 1) := by decide +kernel
theorem dX7_readCondition_106 : decode cX7_readCondition 106 = .ok (.invokespecial 134, 3) := by decide +kernel
theorem dX7_readCondition_109 : decode cX7_readCondition 109 = .ok (.areturn, 1) := by decide +kernel
theorem dX7_readCondition_110 : decode cX7_readCondition 110 = .ok (.new 128, 3) := by decide +kernel
theorem dX7_readCondition_113 : decode cX7_readCondition 113 = .ok (.dup, 1) := by decide +kernel
theorem dX7_readCondition_114 : decode cX7_readCondition 114 = .ok (.iload_n 2, 1) := by decide +kernel
theorem dX7_readCondition_115 : decode cX7_readCondition 115 = .ok (.bipush 102, 2) := by decide +kernel
theorem dX7_readCondition_117 : decode cX7_readCondition 117 = .ok (.aload_n 0, 1) := by decide +kernel
theorem dX7_readCondition_118 : decode cX7_readCondition 118 = .ok (.invokevirtual 76, 3) := by decide +kernel
theorem dX7_readCondition_121 : decode cX7_readCondition 121 = .ok (.aload_n 1, 1) := by decide +kernel
theorem dX7_readCondition_122 : decode cX7_readCondition 122 = .ok (.invokespecial 134, 3) := by decide +kernel
theorem dX7_readCondition_125 : decode cX7_readCondition 125 = .ok (.areturn, 1) := by decide +kernel
theorem dX7_takeRelation_0 : decode cX7_takeRelation 0 = .ok (.aload_n 0, 1) := by decide +kernel
theorem dX7_takeRelation_1 : decode cX7_takeRelation 1 = .ok (.invokevirtual 45, 3) := by decide +kernel
theorem dX7_takeRelation_4 : decode cX7_takeRelation 4 = .ok (.istore_n 1, 1) := by decide +kernel
theorem dX7_takeRelation_5 : decode cX7_takeRelation 5 = .ok (.iload_n 1, 1) := by decide +kernel
theorem dX7_takeRelation_6 : decode cX7_takeRelation 6 = .ok (.bipush 60, 2) := by decide +kernel
theorem dX7_takeRelation_8 : decode cX7_takeRelation 8 = .ok (.if_icmp .eq 15, 3) := by decide +kernel
theorem dX7_takeRelation_11 : decode cX7_takeRelation 11 = .ok (.iload_n 1, 1) := by decide +kernel
theorem dX7_takeRelation_12 : decode cX7_takeRelation 12 = .ok (.bipush 61, 2) := by decide +kernel
theorem dX7_takeRelation_14 : decode cX7_takeRelation 14 = .ok (.if_icmp .eq 9, 3) := by decide +kernel
theorem dX7_takeRelation_17 : decode cX7_takeRelation 17 = .ok (.iload_n 1, 1) := by decide +kernel
theorem dX7_takeRelation_18 : decode cX7_takeRelation 18 = .ok (.bipush 62, 2) := by decide +kernel
theorem dX7_takeRelation_20 : decode cX7_takeRelation 20 = .ok (.if_icmp .ne 16, 3) := by decide +kernel
theorem dX7_takeRelation_23 : decode cX7_takeRelation 23 = .ok (.aload_n 0, 1) := by decide +kernel
theorem dX7_takeRelation_24 : decode cX7_takeRelation 24 = .ok (.dup, 1) := by decide +kernel
theorem dX7_takeRelation_25 : decode cX7_takeRelation 25 = .ok (.getfield 9, 3) := by decide +kernel
theorem dX7_takeRelation_28 : decode cX7_takeRelation 28 = .ok (.iconst 1, 1) := by decide +kernel
theorem dX7_takeRelation_29 : decode cX7_takeRelation 29 = .ok (.iadd, 1) := by decide +kernel
theorem dX7_takeRelation_30 : decode cX7_takeRelation 30 = .ok (.putfield 9, 3) := by decide +kernel
theorem dX7_takeRelation_33 : decode cX7_takeRelation 33 = .ok (.goto 8, 3) := by decide +kernel
theorem dX7_takeRelation_36 : decode cX7_takeRelation 36 = .ok (.aload_n 0, 1) := by decide +kernel
theorem dX7_takeRelation_37 : decode cX7_takeRelation 37 = .ok (.iconst 1, 1) := by decide +kernel
theorem dX7_takeRelation_38 : decode cX7_takeRelation 38 = .ok (.putfield 22, 3) := by decide +kernel
theorem dX7_takeRelation_41 : decode cX7_takeRelation 41 = .ok (.iload_n 1, 1) := by decide +kernel
theorem dX7_takeRelation_42 : decode cX7_takeRelation 42 = .ok (.ireturn, 1) := by decide +kernel
theorem dX7_takeNumber_0 : decode cX7_takeNumber 0 = .ok (.aload_n 0, 1) := by decide +kernel
theorem dX7_takeNumber_1 : decode cX7_takeNumber 1 = .ok (.bipush 9, 2) := by decide +kernel
theorem dX7_takeNumber_3 : decode cX7_takeNumber 3 = .ok (.invokevirtual 130, 3) := by decide +kernel
theorem dX7_takeNumber_6 : decode cX7_takeNumber 6 = .ok (.istore_n 1, 1) := by decide +kernel
theorem dX7_takeNumber_7 : decode cX7_takeNumber 7 = .ok (.aload_n 0, 1) := by decide +kernel
theorem dX7_takeNumber_8 : decode cX7_takeNumber 8 = .ok (.getfield 22, 3) := by decide +kernel
theorem dX7_takeNumber_11 : decode cX7_takeNumber 11 = .ok (.ifCond .ne 11, 3) := by decide +kernel
theorem dX7_takeNumber_14 : decode cX7_takeNumber 14 = .ok (.iload_n 1, 1) := by decide +kernel
theorem dX7_takeNumber_15 : decode cX7_takeNumber 15 = .ok (.ifCond .eq 7, 3) := by decide +kernel
theorem dX7_takeNumber_18 : decode cX7_takeNumber 18 = .ok (.iconst 1, 1) := by decide +kernel
theorem dX7_takeNumber_19 : decode cX7_takeNumber 19 = .ok (.goto 4, 3) := by decide +kernel
theorem dX7_takeNumber_22 : decode cX7_takeNumber 22 = .ok (.iconst 0, 1) := by decide +kernel
theorem dX7_takeNumber_23 : decode cX7_takeNumber 23 = .ok (.istore_n 2, 1) := by decide +kernel
theorem dX7_takeNumber_24 : decode cX7_takeNumber 24 = .ok (.iload_n 2, 1) := by decide +kernel
theorem dX7_takeNumber_25 : decode cX7_takeNumber 25 = .ok (.ifCond .eq 33, 3) := by decide +kernel
theorem dX7_takeNumber_28 : decode cX7_takeNumber 28 = .ok (.aload_n 0, 1) := by decide +kernel
theorem dX7_takeNumber_29 : decode cX7_takeNumber 29 = .ok (.invokevirtual 45, 3) := by decide +kernel
theorem dX7_takeNumber_32 : decode cX7_takeNumber 32 = .ok (.bipush 48, 2) := by decide +kernel
theorem dX7_takeNumber_34 : decode cX7_takeNumber 34 = .ok (.if_icmp .lt 24, 3) := by decide +kernel
theorem dX7_takeNumber_37 : decode cX7_takeNumber 37 = .ok (.aload_n 0, 1) := by decide +kernel
theorem dX7_takeNumber_38 : decode cX7_takeNumber 38 = .ok (.invokevirtual 45, 3) := by decide +kernel
theorem dX7_takeNumber_41 : decode cX7_takeNumber 41 = .ok (.bipush 57, 2) := by decide +kernel
theorem dX7_takeNumber_43 : decode cX7_takeNumber 43 = .ok (.if_icmp .gt 15, 3) := by decide +kernel
theorem dX7_takeNumber_46 : decode cX7_takeNumber 46 = .ok (.iload_n 1, 1) := by decide +kernel
theorem dX7_takeNumber_47 : decode cX7_takeNumber 47 = .ok (.bipush 10, 2) := by decide +kernel
theorem dX7_takeNumber_49 : decode cX7_takeNumber 49 = .ok (.imul, 1) := by decide +kernel
theorem dX7_takeNumber_50 : decode cX7_takeNumber 50 = .ok (.aload_n 0, 1) := by decide +kernel
theorem dX7_takeNumber_51 : decode cX7_takeNumber 51 = .ok (.bipush 9, 2) := by decide +kernel
theorem dX7_takeNumber_53 : decode cX7_takeNumber 53 = .ok (.invokevirtual 130, 3) := by decide +kernel
theorem dX7_takeNumber_56 : decode cX7_takeNumber 56 = .ok (.iadd, 1) := by decide +kernel
theorem dX7_takeNumber_57 : decode cX7_takeNumber 57 = .ok (.istore_n 1, 1) := by decide +kernel
theorem dX7_takeNumber_58 : decode cX7_takeNumber 58 = .ok (.iload_n 1, 1) := by decide +kernel
theorem dX7_takeNumber_59 : decode cX7_takeNumber 59 = .ok (.ireturn, 1) := by decide +kernel
theorem dX7_takeField_0 : decode cX7_takeField 0 = .ok (.aload_n 0, 1) := by decide +kernel
theorem dX7_takeField_1 : decode cX7_takeField 1 = .ok (.iconst 4, 1) := by decide +kernel
theorem dX7_takeField_2 : decode cX7_takeField 2 = .ok (.invokevirtual 130, 3) := by decide +kernel
theorem dX7_takeField_5 : decode cX7_takeField 5 = .ok (.istore_n 1, 1) := by decide +kernel
theorem dX7_takeField_6 : decode cX7_takeField 6 = .ok (.aload_n 0, 1) := by decide +kernel
theorem dX7_takeField_7 : decode cX7_takeField 7 = .ok (.getfield 41, 3) := by decide +kernel
theorem dX7_takeField_10 : decode cX7_takeField 10 = .ok (.dup, 1) := by decide +kernel
theorem dX7_takeField_11 : decode cX7_takeField 11 = .ok (.getfield 143, 3) := by decide +kernel
theorem dX7_takeField_14 : decode cX7_takeField 14 = .ok (.iconst 1, 1) := by decide +kernel
theorem dX7_takeField_15 : decode cX7_takeField 15 = .ok (.iload_n 1, 1) := by decide +kernel
theorem dX7_takeField_16 : decode cX7_takeField 16 = .ok (.ishl, 1) := by decide +kernel
theorem dX7_takeField_17 : decode cX7_takeField 17 = .ok (.ior, 1) := by decide +kernel
theorem dX7_takeField_18 : decode cX7_takeField 18 = .ok (.putfield 143, 3) := by decide +kernel
theorem dX7_takeField_21 : decode cX7_takeField 21 = .ok (.iload_n 1, 1) := by decide +kernel
theorem dX7_takeField_22 : decode cX7_takeField 22 = .ok (.ireturn, 1) := by decide +kernel
theorem dX7_takeDigit_0 : decode cX7_takeDigit 0 = .ok (.aload_n 0, 1) := by decide +kernel
theorem dX7_takeDigit_1 : decode cX7_takeDigit 1 = .ok (.invokevirtual 45, 3) := by decide +kernel
theorem dX7_takeDigit_4 : decode cX7_takeDigit 4 = .ok (.bipush 48, 2) := by decide +kernel
theorem dX7_takeDigit_6 : decode cX7_takeDigit 6 = .ok (.isub, 1) := by decide +kernel
theorem dX7_takeDigit_7 : decode cX7_takeDigit 7 = .ok (.istore_n 2, 1) := by decide +kernel
theorem dX7_takeDigit_8 : decode cX7_takeDigit 8 = .ok (.aload_n 0, 1) := by decide +kernel
theorem dX7_takeDigit_9 : decode cX7_takeDigit 9 = .ok (.getfield 22, 3) := by decide +kernel
theorem dX7_takeDigit_12 : decode cX7_takeDigit 12 = .ok (.ifCond .ne 12, 3) := by decide +kernel
theorem dX7_takeDigit_15 : decode cX7_takeDigit 15 = .ok (.iload_n 2, 1) := by decide +kernel
theorem dX7_takeDigit_16 : decode cX7_takeDigit 16 = .ok (.ifCond .lt 8, 3) := by decide +kernel
theorem dX7_takeDigit_19 : decode cX7_takeDigit 19 = .ok (.iload_n 2, 1) := by decide +kernel
theorem dX7_takeDigit_20 : decode cX7_takeDigit 20 = .ok (.iload_n 1, 1) := by decide +kernel
theorem dX7_takeDigit_21 : decode cX7_takeDigit 21 = .ok (.if_icmp .le 10, 3) := by decide +kernel
theorem dX7_takeDigit_24 : decode cX7_takeDigit 24 = .ok (.aload_n 0, 1) := by decide +kernel
theorem dX7_takeDigit_25 : decode cX7_takeDigit 25 = .ok (.iconst 1, 1) := by decide +kernel
theorem dX7_takeDigit_26 : decode cX7_takeDigit 26 = .ok (.putfield 22, 3) := by decide +kernel
theorem dX7_takeDigit_29 : decode cX7_takeDigit 29 = .ok (.iconst 0, 1) := by decide +kernel
theorem dX7_takeDigit_30 : decode cX7_takeDigit 30 = .ok (.ireturn, 1) := by decide +kernel
theorem dX7_takeDigit_31 : decode cX7_takeDigit 31 = .ok (.aload_n 0, 1) := by decide +kernel
theorem dX7_takeDigit_32 : decode cX7_takeDigit 32 = .ok (.dup, 1) := by decide +kernel
theorem dX7_takeDigit_33 : decode cX7_takeDigit 33 = .ok (.getfield 9, 3) := by decide +kernel
theorem dX7_takeDigit_36 : decode cX7_takeDigit 36 = .ok (.iconst 1, 1) := by decide +kernel
theorem dX7_takeDigit_37 : decode cX7_takeDigit 37 = .ok (.iadd, 1) := by decide +kernel
theorem dX7_takeDigit_38 : decode cX7_takeDigit 38 = .ok (.putfield 9, 3) := by decide +kernel
theorem dX7_takeDigit_41 : decode cX7_takeDigit 41 = .ok (.iload_n 2, 1) := by decide +kernel
theorem dX7_takeDigit_42 : decode cX7_takeDigit 42 = .ok (.ireturn, 1) := by decide +kernel
theorem dX7_take_0 : decode cX7_take 0 = .ok (.aload_n 0, 1) := by decide +kernel
theorem dX7_take_1 : decode cX7_take 1 = .ok (.getfield 22, 3) := by decide +kernel
theorem dX7_take_4 : decode cX7_take 4 = .ok (.ifCond .ne 11, 3) := by decide +kernel
theorem dX7_take_7 : decode cX7_take 7 = .ok (.aload_n 0, 1) := by decide +kernel
theorem dX7_take_8 : decode cX7_take 8 = .ok (.invokevirtual 45, 3) := by decide +kernel
theorem dX7_take_11 : decode cX7_take 11 = .ok (.iload_n 1, 1) := by decide +kernel
theorem dX7_take_12 : decode cX7_take 12 = .ok (.if_icmp .eq 11, 3) := by decide +kernel
theorem dX7_take_15 : decode cX7_take 15 = .ok (.aload_n 0, 1) := by decide +kernel
theorem dX7_take_16 : decode cX7_take 16 = .ok (.iconst 1, 1) := by decide +kernel
theorem dX7_take_17 : decode cX7_take 17 = .ok (.putfield 22, 3) := by decide +kernel
theorem dX7_take_20 : decode cX7_take 20 = .ok (.goto 13, 3) := by decide +kernel
theorem dX7_take_23 : decode cX7_take 23 = .ok (.aload_n 0, 1) := by decide +kernel
theorem dX7_take_24 : decode cX7_take 24 = .ok (.dup, 1) := by decide +kernel
theorem dX7_take_25 : decode cX7_take 25 = .ok (.getfield 9, 3) := by decide +kernel
theorem dX7_take_28 : decode cX7_take 28 = .ok (.iconst 1, 1) := by decide +kernel
theorem dX7_take_29 : decode cX7_take 29 = .ok (.iadd, 1) := by decide +kernel
theorem dX7_take_30 : decode cX7_take 30 = .ok (.putfield 9, 3) := by decide +kernel
theorem dX7_take_33 : decode cX7_take 33 = .ok (.return_, 1) := by decide +kernel
theorem dX7_takeLiterals_0 : decode cX7_takeLiterals 0 = .ok (.aload_n 0, 1) := by decide +kernel
theorem dX7_takeLiterals_1 : decode cX7_takeLiterals 1 = .ok (.getfield 9, 3) := by decide +kernel
theorem dX7_takeLiterals_4 : decode cX7_takeLiterals 4 = .ok (.istore_n 1, 1) := by decide +kernel
theorem dX7_takeLiterals_5 : decode cX7_takeLiterals 5 = .ok (.aload_n 0, 1) := by decide +kernel
theorem dX7_takeLiterals_6 : decode cX7_takeLiterals 6 = .ok (.getfield 9, 3) := by decide +kernel
theorem dX7_takeLiterals_9 : decode cX7_takeLiterals 9 = .ok (.istore_n 2, 1) := by decide +kernel
theorem dX7_takeLiterals_10 : decode cX7_takeLiterals 10 = .ok (.iload_n 2, 1) := by decide +kernel
theorem dX7_takeLiterals_11 : decode cX7_takeLiterals 11 = .ok (.aload_n 0, 1) := by decide +kernel
theorem dX7_takeLiterals_12 : decode cX7_takeLiterals 12 = .ok (.getfield 26, 3) := by decide +kernel
theorem dX7_takeLiterals_15 : decode cX7_takeLiterals 15 = .ok (.invokevirtual 32, 3) := by decide +kernel
theorem dX7_takeLiterals_18 : decode cX7_takeLiterals 18 = .ok (.if_icmp .ge 37, 3) := by decide +kernel
theorem dX7_takeLiterals_21 : decode cX7_takeLiterals 21 = .ok (.aload_n 0, 1) := by decide +kernel
theorem dX7_takeLiterals_22 : decode cX7_takeLiterals 22 = .ok (.getfield 22, 3) := by decide +kernel
theorem dX7_takeLiterals_25 : decode cX7_takeLiterals 25 = .ok (.ifCond .ne 30, 3) := by decide +kernel
theorem dX7_takeLiterals_28 : decode cX7_takeLiterals 28 = .ok (.aload_n 0, 1) := by decide +kernel
theorem dX7_takeLiterals_29 : decode cX7_takeLiterals 29 = .ok (.getfield 26, 3) := by decide +kernel
theorem dX7_takeLiterals_32 : decode cX7_takeLiterals 32 = .ok (.iload_n 2, 1) := by decide +kernel
theorem dX7_takeLiterals_33 : decode cX7_takeLiterals 33 = .ok (.invokevirtual 146, 3) := by decide +kernel
theorem dX7_takeLiterals_36 : decode cX7_takeLiterals 36 = .ok (.invokestatic 67, 3) := by decide +kernel
theorem dX7_takeLiterals_39 : decode cX7_takeLiterals 39 = .ok (.ifCond .eq 16, 3) := by decide +kernel
theorem dX7_takeLiterals_42 : decode cX7_takeLiterals 42 = .ok (.aload_n 0, 1) := by decide +kernel
theorem dX7_takeLiterals_43 : decode cX7_takeLiterals 43 = .ok (.iload_n 2, 1) := by decide +kernel
theorem dX7_takeLiterals_44 : decode cX7_takeLiterals 44 = .ok (.iconst 1, 1) := by decide +kernel
theorem dX7_takeLiterals_45 : decode cX7_takeLiterals 45 = .ok (.iadd, 1) := by decide +kernel
theorem dX7_takeLiterals_46 : decode cX7_takeLiterals 46 = .ok (.putfield 9, 3) := by decide +kernel
theorem dX7_takeLiterals_49 : decode cX7_takeLiterals 49 = .ok (.iinc 2 1, 3) := by decide +kernel
theorem dX7_takeLiterals_52 : decode cX7_takeLiterals 52 = .ok (.goto (-42), 3) := by decide +kernel
theorem dX7_takeLiterals_55 : decode cX7_takeLiterals 55 = .ok (.iload_n 1, 1) := by decide +kernel
theorem dX7_takeLiterals_56 : decode cX7_takeLiterals 56 = .ok (.aload_n 0, 1) := by decide +kernel
theorem dX7_takeLiterals_57 : decode cX7_takeLiterals 57 = .ok (.getfield 9, 3) := by decide +kernel
theorem dX7_takeLiterals_60 : decode cX7_takeLiterals 60 = .ok (.if_icmp .ge 18, 3) := by decide +kernel
theorem dX7_takeLiterals_63 : decode cX7_takeLiterals 63 = .ok (.aload_n 0, 1) := by decide +kernel
theorem dX7_takeLiterals_64 : decode cX7_takeLiterals 64 = .ok (.getfield 26, 3) := by decide +kernel
theorem dX7_takeLiterals_67 : decode cX7_takeLiterals 67 = .ok (.iload_n 1, 1) := by decide +kernel
theorem dX7_takeLiterals_68 : decode cX7_takeLiterals 68 = .ok (.aload_n 0, 1) := by decide +kernel
theorem dX7_takeLiterals_69 : decode cX7_takeLiterals 69 = .ok (.getfield 9, 3) := by decide +kernel
theorem dX7_takeLiterals_72 : decode cX7_takeLiterals 72 = .ok (.invokevirtual 150, 3) := by decide +kernel
theorem dX7_takeLiterals_75 : decode cX7_takeLiterals 75 = .ok (.goto 5, 3) := by decide +kernel
theorem dX7_takeLiterals_78 : decode cX7_takeLiterals 78 = .ok (.ldc 154, 2) := by decide +kernel
theorem dX7_takeLiterals_80 : decode cX7_takeLiterals 80 = .ok (.areturn, 1) := by decide +kernel
theorem dX7_sign_0 : decode cX7_sign 0 = .ok (.aload_n 0, 1) := by decide +kernel
theorem dX7_sign_1 : decode cX7_sign 1 = .ok (.getfield 9, 3) := by decide +kernel
theorem dX7_sign_4 : decode cX7_sign 4 = .ok (.aload_n 0, 1) := by decide +kernel
theorem dX7_sign_5 : decode cX7_sign 5 = .ok (.getfield 26, 3) := by decide +kernel
theorem dX7_sign_8 : decode cX7_sign 8 = .ok (.invokevirtual 32, 3) := by decide +kernel
theorem dX7_sign_11 : decode cX7_sign 11 = .ok (.if_icmp .ge 17, 3) := by decide +kernel
theorem dX7_sign_14 : decode cX7_sign 14 = .ok (.aload_n 0, 1) := by decide +kernel
theorem dX7_sign_15 : decode cX7_sign 15 = .ok (.getfield 26, 3) := by decide +kernel
theorem dX7_sign_18 : decode cX7_sign 18 = .ok (.aload_n 0, 1) := by decide +kernel
theorem dX7_sign_19 : decode cX7_sign 19 = .ok (.getfield 9, 3) := by decide +kernel
theorem dX7_sign_22 : decode cX7_sign 22 = .ok (.invokevirtual 146, 3) := by decide +kernel
theorem dX7_sign_25 : decode cX7_sign 25 = .ok (.goto 4, 3) := by decide +kernel
theorem dX7_sign_28 : decode cX7_sign 28 = .ok (.iconst 0, 1) := by decide +kernel
theorem dX7_sign_29 : decode cX7_sign 29 = .ok (.ireturn, 1) := by decide +kernel
theorem dX7_addPiece_0 : decode cX7_addPiece 0 = .ok (.aload_n 0, 1) := by decide +kernel
theorem dX7_addPiece_1 : decode cX7_addPiece 1 = .ok (.getfield 19, 3) := by decide +kernel
theorem dX7_addPiece_4 : decode cX7_addPiece 4 = .ok (.ifCond .le 29, 3) := by decide +kernel
theorem dX7_addPiece_7 : decode cX7_addPiece 7 = .ok (.aload_n 0, 1) := by decide +kernel
theorem dX7_addPiece_8 : decode cX7_addPiece 8 = .ok (.getfield 19, 3) := by decide +kernel
theorem dX7_addPiece_11 : decode cX7_addPiece 11 = .ok (.aload_n 0, 1) := by decide +kernel
theorem dX7_addPiece_12 : decode cX7_addPiece 12 = .ok (.getfield 15, 3) := by decide +kernel
theorem dX7_addPiece_15 : decode cX7_addPiece 15 = .ok (.arraylength, 1) := by decide +kernel
theorem dX7_addPiece_16 : decode cX7_addPiece 16 = .ok (.if_icmp .gt 17, 3) := by decide +kernel
theorem dX7_addPiece_19 : decode cX7_addPiece 19 = .ok (.aload_n 0, 1) := by decide +kernel
theorem dX7_addPiece_20 : decode cX7_addPiece 20 = .ok (.getfield 15, 3) := by decide +kernel
theorem dX7_addPiece_23 : decode cX7_addPiece 23 = .ok (.aload_n 0, 1) := by decide +kernel
theorem dX7_addPiece_24 : decode cX7_addPiece 24 = .ok (.getfield 19, 3) := by decide +kernel
theorem dX7_addPiece_27 : decode cX7_addPiece 27 = .ok (.iconst 1, 1) := by decide +kernel
theorem dX7_addPiece_28 : decode cX7_addPiece 28 = .ok (.isub, 1) := by decide +kernel
theorem dX7_addPiece_29 : decode cX7_addPiece 29 = .ok (.iaload, 1) := by decide +kernel
theorem dX7_addPiece_30 : decode cX7_addPiece 30 = .ok (.goto 4, 3) := by decide +kernel
theorem dX7_addPiece_33 : decode cX7_addPiece 33 = .ok (.iconst (-1), 1) := by decide +kernel
theorem dX7_addPiece_34 : decode cX7_addPiece 34 = .ok (.istore_n 2, 1) := by decide +kernel
theorem dX7_addPiece_35 : decode cX7_addPiece 35 = .ok (.new 72, 3) := by decide +kernel
theorem dX7_addPiece_38 : decode cX7_addPiece 38 = .ok (.dup, 1) := by decide +kernel
theorem dX7_addPiece_39 : decode cX7_addPiece 39 = .ok (.iload_n 1, 1) := by decide +kernel
theorem dX7_addPiece_40 : decode cX7_addPiece 40 = .ok (.aload_n 0, 1) := by decide +kernel
theorem dX7_addPiece_41 : decode cX7_addPiece 41 = .ok (.getfield 9, 3) := by decide +kernel
theorem dX7_addPiece_44 : decode cX7_addPiece 44 = .ok (.aload_n 0, 1) := by decide +kernel
theorem dX7_addPiece_45 : decode cX7_addPiece 45 = .ok (.getfield 19, 3) := by decide +kernel
theorem dX7_addPiece_48 : decode cX7_addPiece 48 = .ok (.iload_n 2, 1) := by decide +kernel
theorem dX7_addPiece_49 : decode cX7_addPiece 49 = .ok (.invokespecial 156, 3) := by decide +kernel
theorem dX7_addPiece_52 : decode cX7_addPiece 52 = .ok (.astore_n 3, 1) := by decide +kernel
theorem dX7_addPiece_53 : decode cX7_addPiece 53 = .ok (.aload_n 0, 1) := by decide +kernel
theorem dX7_addPiece_54 : decode cX7_addPiece 54 = .ok (.getfield 41, 3) := by decide +kernel
theorem dX7_addPiece_57 : decode cX7_addPiece 57 = .ok (.aload_n 3, 1) := by decide +kernel
theorem dX7_addPiece_58 : decode cX7_addPiece 58 = .ok (.invokevirtual 159, 3) := by decide +kernel
theorem dX7_addPiece_61 : decode cX7_addPiece 61 = .ok (.aload_n 0, 1) := by decide +kernel
theorem dX7_addPiece_62 : decode cX7_addPiece 62 = .ok (.dup, 1) := by decide +kernel
theorem dX7_addPiece_63 : decode cX7_addPiece 63 = .ok (.getfield 9, 3) := by decide +kernel
theorem dX7_addPiece_66 : decode cX7_addPiece 66 = .ok (.iconst 1, 1) := by decide +kernel
theorem dX7_addPiece_67 : decode cX7_addPiece 67 = .ok (.iadd, 1) := by decide +kernel
theorem dX7_addPiece_68 : decode cX7_addPiece 68 = .ok (.putfield 9, 3) := by decide +kernel
theorem dX7_addPiece_71 : decode cX7_addPiece 71 = .ok (.aload_n 3, 1) := by decide +kernel
theorem dX7_addPiece_72 : decode cX7_addPiece 72 = .ok (.areturn, 1) := by decide +kernel
theorem dX7_isLiteral_0 : decode cX7_isLiteral 0 = .ok (.iload_n 0, 1) := by decide +kernel
theorem dX7_isLiteral_1 : decode cX7_isLiteral 1 = .ok (.bipush 32, 2) := by decide +kernel
theorem dX7_isLiteral_3 : decode cX7_isLiteral 3 = .ok (.if_icmp .lt 23, 3) := by decide +kernel
theorem dX7_isLiteral_6 : decode cX7_isLiteral 6 = .ok (.iload_n 0, 1) := by decide +kernel
theorem dX7_isLiteral_7 : decode cX7_isLiteral 7 = .ok (.bipush 126, 2) := by decide +kernel
theorem dX7_isLiteral_9 : decode cX7_isLiteral 9 = .ok (.if_icmp .gt 17, 3) := by decide +kernel
theorem dX7_isLiteral_12 : decode cX7_isLiteral 12 = .ok (.ldc 163, 2) := by decide +kernel
theorem dX7_isLiteral_14 : decode cX7_isLiteral 14 = .ok (.iload_n 0, 1) := by decide +kernel
theorem dX7_isLiteral_15 : decode cX7_isLiteral 15 = .ok (.i2c, 1) := by decide +kernel
theorem dX7_isLiteral_16 : decode cX7_isLiteral 16 = .ok (.invokevirtual 165, 3) := by decide +kernel
theorem dX7_isLiteral_19 : decode cX7_isLiteral 19 = .ok (.ifCond .ge 7, 3) := by decide +kernel
theorem dX7_isLiteral_22 : decode cX7_isLiteral 22 = .ok (.iconst 1, 1) := by decide +kernel
theorem dX7_isLiteral_23 : decode cX7_isLiteral 23 = .ok (.goto 4, 3) := by decide +kernel
theorem dX7_isLiteral_26 : decode cX7_isLiteral 26 = .ok (.iconst 0, 1) := by decide +kernel
theorem dX7_isLiteral_27 : decode cX7_isLiteral 27 = .ok (.ireturn, 1) := by decide +kernel
theorem dX8_init_0 : decode cX8_init 0 = .ok (.aload_n 0, 1) := by decide +kernel
theorem dX8_init_1 : decode cX8_init 1 = .ok (.invokespecial 1, 3) := by decide +kernel
theorem dX8_init_4 : decode cX8_init 4 = .ok (.aload_n 0, 1) := by decide +kernel
theorem dX8_init_5 : decode cX8_init 5 = .ok (.aload_n 1, 1) := by decide +kernel
theorem dX8_init_6 : decode cX8_init 6 = .ok (.putfield 7, 3) := by decide +kernel
theorem dX8_init_9 : decode cX8_init 9 = .ok (.return_, 1) := by decide +kernel
theorem dX8_length_0 : decode cX8_length 0 = .ok (.aload_n 0, 1) := by decide +kernel
theorem dX8_length_1 : decode cX8_length 1 = .ok (.getfield 7, 3) := by decide +kernel
theorem dX8_length_4 : decode cX8_length 4 = .ok (.invokevirtual 13, 3) := by decide +kernel
theorem dX8_length_7 : decode cX8_length 7 = .ok (.ireturn, 1) := by decide +kernel
theorem dX8_isEmpty_0 : decode cX8_isEmpty 0 = .ok (.aload_n 0, 1) := by decide +kernel
theorem dX8_isEmpty_1 : decode cX8_isEmpty 1 = .ok (.getfield 7, 3) := by decide +kernel
theorem dX8_isEmpty_4 : decode cX8_isEmpty 4 = .ok (.invokevirtual 19, 3) := by decide +kernel
theorem dX8_isEmpty_7 : decode cX8_isEmpty 7 = .ok (.ireturn, 1) := by decide +kernel
theorem dX8_signAt_0 : decode cX8_signAt 0 = .ok (.iload_n 1, 1) := by decide +kernel
theorem dX8_signAt_1 : decode cX8_signAt 1 = .ok (.ifCond .lt 25, 3) := by decide +kernel
theorem dX8_signAt_4 : decode cX8_signAt 4 = .ok (.iload_n 1, 1) := by decide +kernel
theorem dX8_signAt_5 : decode cX8_signAt 5 = .ok (.aload_n 0, 1) := by decide +kernel
theorem dX8_signAt_6 : decode cX8_signAt 6 = .ok (.getfield 7, 3) := by decide +kernel
theorem dX8_signAt_9 : decode cX8_signAt 9 = .ok (.invokevirtual 13, 3) := by decide +kernel
theorem dX8_signAt_12 : decode cX8_signAt 12 = .ok (.if_icmp .ge 14, 3) := by decide +kernel
theorem dX8_signAt_15 : decode cX8_signAt 15 = .ok (.aload_n 0, 1) := by decide +kernel
theorem dX8_signAt_16 : decode cX8_signAt 16 = .ok (.getfield 7, 3) := by decide +kernel
theorem dX8_signAt_19 : decode cX8_signAt 19 = .ok (.iload_n 1, 1) := by decide +kernel
theorem dX8_signAt_20 : decode cX8_signAt 20 = .ok (.invokevirtual 23, 3) := by decide +kernel
theorem dX8_signAt_23 : decode cX8_signAt 23 = .ok (.goto 4, 3) := by decide +kernel
theorem dX8_signAt_26 : decode cX8_signAt 26 = .ok (.iconst 0, 1) := by decide +kernel
theorem dX8_signAt_27 : decode cX8_signAt 27 = .ok (.ireturn, 1) := by decide +kernel
theorem dX8_isSameAs_0 : decode cX8_isSameAs 0 = .ok (.aload_n 0, 1) := by decide +kernel
theorem dX8_isSameAs_1 : decode cX8_isSameAs 1 = .ok (.invokevirtual 27, 3) := by decide +kernel
theorem dX8_isSameAs_4 : decode cX8_isSameAs 4 = .ok (.aload_n 1, 1) := by decide +kernel
theorem dX8_isSameAs_5 : decode cX8_isSameAs 5 = .ok (.invokevirtual 27, 3) := by decide +kernel
theorem dX8_isSameAs_8 : decode cX8_isSameAs 8 = .ok (.if_icmp .ne 15, 3) := by decide +kernel
theorem dX8_isSameAs_11 : decode cX8_isSameAs 11 = .ok (.aload_n 0, 1) := by decide +kernel
theorem dX8_isSameAs_12 : decode cX8_isSameAs 12 = .ok (.aload_n 1, 1) := by decide +kernel
theorem dX8_isSameAs_13 : decode cX8_isSameAs 13 = .ok (.invokevirtual 28, 3) := by decide +kernel
theorem dX8_isSameAs_16 : decode cX8_isSameAs 16 = .ok (.ifCond .ne 7, 3) := by decide +kernel
theorem dX8_isSameAs_19 : decode cX8_isSameAs 19 = .ok (.iconst 1, 1) := by decide +kernel
theorem dX8_isSameAs_20 : decode cX8_isSameAs 20 = .ok (.goto 4, 3) := by decide +kernel
theorem dX8_isSameAs_23 : decode cX8_isSameAs 23 = .ok (.iconst 0, 1) := by decide +kernel
theorem dX8_isSameAs_24 : decode cX8_isSameAs 24 = .ok (.ireturn, 1) := by decide +kernel
theorem dX8_compareWith_0 : decode cX8_compareWith 0 = .ok (.aload_n 0, 1) := by decide +kernel
theorem dX8_compareWith_1 : decode cX8_compareWith 1 = .ok (.getfield 7, 3) := by decide +kernel
theorem dX8_compareWith_4 : decode cX8_compareWith 4 = .ok (.invokevirtual 13, 3) := by decide +kernel
theorem dX8_compareWith_7 : decode cX8_compareWith 7 = .ok (.aload_n 1, 1) := by decide +kernel
theorem dX8_compareWith_8 : decode cX8_compareWith 8 = .ok (.getfield 7, 3) := by decide +kernel
theorem dX8_compareWith_11 : decode cX8_compareWith 11 = .ok (.invokevirtual 13, 3) := by decide +kernel
theorem dX8_compareWith_14 : decode cX8_compareWith 14 = .ok (.invokestatic 32, 3) := by decide +kernel
theorem dX8_compareWith_17 : decode cX8_compareWith 17 = .ok (.istore_n 2, 1) := by decide +kernel
theorem dX8_compareWith_18 : decode cX8_compareWith 18 = .ok (.iconst 0, 1) := by decide +kernel
theorem dX8_compareWith_19 : decode cX8_compareWith 19 = .ok (.istore_n 3, 1) := by decide +kernel
theorem dX8_compareWith_20 : decode cX8_compareWith 20 = .ok (.iload_n 3, 1) := by decide +kernel
theorem dX8_compareWith_21 : decode cX8_compareWith 21 = .ok (.iload_n 2, 1) := by decide +kernel
theorem dX8_compareWith_22 : decode cX8_compareWith 22 = .ok (.if_icmp .ge 42, 3) := by decide +kernel
theorem dX8_compareWith_25 : decode cX8_compareWith 25 = .ok (.aload_n 0, 1) := by decide +kernel
theorem dX8_compareWith_26 : decode cX8_compareWith 26 = .ok (.getfield 7, 3) := by decide +kernel
theorem dX8_compareWith_29 : decode cX8_compareWith 29 = .ok (.iload_n 3, 1) := by decide +kernel
theorem dX8_compareWith_30 : decode cX8_compareWith 30 = .ok (.invokevirtual 23, 3) := by decide +kernel
theorem dX8_compareWith_33 : decode cX8_compareWith 33 = .ok (.invokestatic 38, 3) := by decide +kernel
theorem dX8_compareWith_36 : decode cX8_compareWith 36 = .ok (.aload_n 1, 1) := by decide +kernel
theorem dX8_compareWith_37 : decode cX8_compareWith 37 = .ok (.getfield 7, 3) := by decide +kernel
theorem dX8_compareWith_40 : decode cX8_compareWith 40 = .ok (.iload_n 3, 1) := by decide +kernel
theorem dX8_compareWith_41 : decode cX8_compareWith 41 = .ok (.invokevirtual 23, 3) := by decide +kernel
theorem dX8_compareWith_44 : decode cX8_compareWith 44 = .ok (.invokestatic 38, 3) := by decide +kernel
theorem dX8_compareWith_47 : decode cX8_compareWith 47 = .ok (.isub, 1) := by decide +kernel
theorem dX8_compareWith_48 : decode cX8_compareWith 48 = .ok (.istore 4, 2) := by decide +kernel
theorem dX8_compareWith_50 : decode cX8_compareWith 50 = .ok (.iload 4, 2) := by decide +kernel
theorem dX8_compareWith_52 : decode cX8_compareWith 52 = .ok (.ifCond .eq 6, 3) := by decide +kernel
theorem dX8_compareWith_55 : decode cX8_compareWith 55 = .ok (.iload 4, 2) := by decide +kernel
theorem dX8_compareWith_57 : decode cX8_compareWith 57 = .ok (.ireturn, 1) := by decide +kernel
theorem dX8_compareWith_58 : decode cX8_compareWith 58 = .ok (.iinc 3 1, 3) := by decide +kernel
theorem dX8_compareWith_61 : decode cX8_compareWith 61 = .ok (.goto (-41), 3) := by decide +kernel
theorem dX8_compareWith_64 : decode cX8_compareWith 64 = .ok (.aload_n 0, 1) := by decide +kernel
theorem dX8_compareWith_65 : decode cX8_compareWith 65 = .ok (.getfield 7, 3) := by decide +kernel
theorem dX8_compareWith_68 : decode cX8_compareWith 68 = .ok (.invokevirtual 13, 3) := by decide +kernel
theorem dX8_compareWith_71 : decode cX8_compareWith 71 = .ok (.aload_n 1, 1) := by decide +kernel
theorem dX8_compareWith_72 : decode cX8_compareWith 72 = .ok (.getfield 7, 3) := by decide +kernel
theorem dX8_compareWith_75 : decode cX8_compareWith 75 = .ok (.invokevirtual 13, 3) := by decide +kernel
theorem dX8_compareWith_78 : decode cX8_compareWith 78 = .ok (.isub, 1) := by decide +kernel
theorem dX8_compareWith_79 : decode cX8_compareWith 79 = .ok (.ireturn, 1) := by decide +kernel
theorem dX8_capital_0 : decode cX8_capital 0 = .ok (.iload_n 0, 1) := by decide +kernel
theorem dX8_capital_1 : decode cX8_capital 1 = .ok (.bipush 97, 2) := by decide +kernel
theorem dX8_capital_3 : decode cX8_capital 3 = .ok (.if_icmp .lt 20, 3) := by decide +kernel
theorem dX8_capital_6 : decode cX8_capital 6 = .ok (.iload_n 0, 1) := by decide +kernel
theorem dX8_capital_7 : decode cX8_capital 7 = .ok (.bipush 122, 2) := by decide +kernel
theorem dX8_capital_9 : decode cX8_capital 9 = .ok (.if_icmp .gt 14, 3) := by decide +kernel
theorem dX8_capital_12 : decode cX8_capital 12 = .ok (.iload_n 0, 1) := by decide +kernel
theorem dX8_capital_13 : decode cX8_capital 13 = .ok (.bipush 97, 2) := by decide +kernel
theorem dX8_capital_15 : decode cX8_capital 15 = .ok (.isub, 1) := by decide +kernel
theorem dX8_capital_16 : decode cX8_capital 16 = .ok (.bipush 65, 2) := by decide +kernel
theorem dX8_capital_18 : decode cX8_capital 18 = .ok (.iadd, 1) := by decide +kernel
theorem dX8_capital_19 : decode cX8_capital 19 = .ok (.i2c, 1) := by decide +kernel
theorem dX8_capital_20 : decode cX8_capital 20 = .ok (.goto 4, 3) := by decide +kernel
theorem dX8_capital_23 : decode cX8_capital 23 = .ok (.iload_n 0, 1) := by decide +kernel
theorem dX8_capital_24 : decode cX8_capital 24 = .ok (.ireturn, 1) := by decide +kernel
theorem dX9_init_0 : decode cX9_init 0 = .ok (.aload_n 0, 1) := by decide +kernel
theorem dX9_init_1 : decode cX9_init 1 = .ok (.invokespecial 1, 3) := by decide +kernel
theorem dX9_init_4 : decode cX9_init 4 = .ok (.aload_n 0, 1) := by decide +kernel
theorem dX9_init_5 : decode cX9_init 5 = .ok (.new 7, 3) := by decide +kernel
theorem dX9_init_8 : decode cX9_init 8 = .ok (.dup, 1) := by decide +kernel
theorem dX9_init_9 : decode cX9_init 9 = .ok (.invokespecial 9, 3) := by decide +kernel
theorem dX9_init_12 : decode cX9_init 12 = .ok (.putfield 10, 3) := by decide +kernel
theorem dX9_init_15 : decode cX9_init 15 = .ok (.aload_n 0, 1) := by decide +kernel
theorem dX9_init_16 : decode cX9_init 16 = .ok (.new 16, 3) := by decide +kernel
theorem dX9_init_19 : decode cX9_init 19 = .ok (.dup, 1) := by decide +kernel
theorem dX9_init_20 : decode cX9_init 20 = .ok (.invokespecial 18, 3) := by decide +kernel
theorem dX9_init_23 : decode cX9_init 23 = .ok (.putfield 19, 3) := by decide +kernel
theorem dX9_init_26 : decode cX9_init 26 = .ok (.aload_n 0, 1) := by decide +kernel
theorem dX9_init_27 : decode cX9_init 27 = .ok (.new 16, 3) := by decide +kernel
theorem dX9_init_30 : decode cX9_init 30 = .ok (.dup, 1) := by decide +kernel
theorem dX9_init_31 : decode cX9_init 31 = .ok (.invokespecial 18, 3) := by decide +kernel
theorem dX9_init_34 : decode cX9_init 34 = .ok (.putfield 23, 3) := by decide +kernel
theorem dX9_init_37 : decode cX9_init 37 = .ok (.aload_n 0, 1) := by decide +kernel
theorem dX9_init_38 : decode cX9_init 38 = .ok (.bipush 8, 2) := by decide +kernel
theorem dX9_init_40 : decode cX9_init 40 = .ok (.anewarray 16, 3) := by decide +kernel
theorem dX9_init_43 : decode cX9_init 43 = .ok (.putfield 26, 3) := by decide +kernel
theorem dX9_init_46 : decode cX9_init 46 = .ok (.aload_n 0, 1) := by decide +kernel
theorem dX9_init_47 : decode cX9_init 47 = .ok (.new 30, 3) := by decide +kernel
theorem dX9_init_50 : decode cX9_init 50 = .ok (.dup, 1) := by decide +kernel
theorem dX9_init_51 : decode cX9_init 51 = .ok (.invokespecial 32, 3) := by decide +kernel
theorem dX9_init_54 : decode cX9_init 54 = .ok (.putfield 33, 3) := by decide +kernel
theorem dX9_init_57 : decode cX9_init 57 = .ok (.aload_n 0, 1) := by decide +kernel
theorem dX9_init_58 : decode cX9_init 58 = .ok (.new 37, 3) := by decide +kernel
theorem dX9_init_61 : decode cX9_init 61 = .ok (.dup, 1) := by decide +kernel
theorem dX9_init_62 : decode cX9_init 62 = .ok (.invokespecial 39, 3) := by decide +kernel
theorem dX9_init_65 : decode cX9_init 65 = .ok (.putfield 40, 3) := by decide +kernel
theorem dX9_init_68 : decode cX9_init 68 = .ok (.aload_n 0, 1) := by decide +kernel
theorem dX9_init_69 : decode cX9_init 69 = .ok (.bipush 20, 2) := by decide +kernel
theorem dX9_init_71 : decode cX9_init 71 = .ok (.newarray .int, 2) := by decide +kernel
theorem dX9_init_73 : decode cX9_init 73 = .ok (.putfield 44, 3) := by decide +kernel
theorem dX9_init_76 : decode cX9_init 76 = .ok (.aload_n 0, 1) := by decide +kernel
theorem dX9_init_77 : decode cX9_init 77 = .ok (.iconst 0, 1) := by decide +kernel
theorem dX9_init_78 : decode cX9_init 78 = .ok (.putfield 48, 3) := by decide +kernel
theorem dX9_init_81 : decode cX9_init 81 = .ok (.aload_n 0, 1) := by decide +kernel
theorem dX9_init_82 : decode cX9_init 82 = .ok (.iconst (-1), 1) := by decide +kernel
theorem dX9_init_83 : decode cX9_init 83 = .ok (.putfield 52, 3) := by decide +kernel
theorem dX9_init_86 : decode cX9_init 86 = .ok (.aload_n 0, 1) := by decide +kernel
theorem dX9_init_87 : decode cX9_init 87 = .ok (.iconst 0, 1) := by decide +kernel
theorem dX9_init_88 : decode cX9_init 88 = .ok (.putfield 55, 3) := by decide +kernel
theorem dX9_init_91 : decode cX9_init 91 = .ok (.iconst 0, 1) := by decide +kernel
theorem dX9_init_92 : decode cX9_init 92 = .ok (.istore_n 1, 1) := by decide +kernel
theorem dX9_init_93 : decode cX9_init 93 = .ok (.iload_n 1, 1) := by decide +kernel
theorem dX9_init_94 : decode cX9_init 94 = .ok (.aload_n 0, 1) := by decide +kernel
theorem dX9_init_95 : decode cX9_init 95 = .ok (.getfield 26, 3) := by decide +kernel
theorem dX9_init_98 : decode cX9_init 98 = .ok (.arraylength, 1) := by decide +kernel
theorem dX9_init_99 : decode cX9_init 99 = .ok (.if_icmp .ge 22, 3) := by decide +kernel
theorem dX9_init_102 : decode cX9_init 102 = .ok (.aload_n 0, 1) := by decide +kernel
theorem dX9_init_103 : decode cX9_init 103 = .ok (.getfield 26, 3) := by decide +kernel
theorem dX9_init_106 : decode cX9_init 106 = .ok (.iload_n 1, 1) := by decide +kernel
theorem dX9_init_107 : decode cX9_init 107 = .ok (.new 16, 3) := by decide +kernel
theorem dX9_init_110 : decode cX9_init 110 = .ok (.dup, 1) := by decide +kernel
theorem dX9_init_111 : decode cX9_init 111 = .ok (.invokespecial 18, 3) := by decide +kernel
theorem dX9_init_114 : decode cX9_init 114 = .ok (.aastore, 1) := by decide +kernel
theorem dX9_init_115 : decode cX9_init 115 = .ok (.iinc 1 1, 3) := by decide +kernel
theorem dX9_init_118 : decode cX9_init 118 = .ok (.goto (-25), 3) := by decide +kernel
theorem dX9_init_121 : decode cX9_init 121 = .ok (.return_, 1) := by decide +kernel
theorem dX9_clear_0 : decode cX9_clear 0 = .ok (.aload_n 0, 1) := by decide +kernel
theorem dX9_clear_1 : decode cX9_clear 1 = .ok (.getfield 19, 3) := by decide +kernel
theorem dX9_clear_4 : decode cX9_clear 4 = .ok (.getfield 59, 3) := by decide +kernel
theorem dX9_clear_7 : decode cX9_clear 7 = .ok (.istore_n 1, 1) := by decide +kernel
theorem dX9_clear_8 : decode cX9_clear 8 = .ok (.aload_n 0, 1) := by decide +kernel
theorem dX9_clear_9 : decode cX9_clear 9 = .ok (.getfield 19, 3) := by decide +kernel
theorem dX9_clear_12 : decode cX9_clear 12 = .ok (.invokevirtual 62, 3) := by decide +kernel
theorem dX9_clear_15 : decode cX9_clear 15 = .ok (.aload_n 0, 1) := by decide +kernel
theorem dX9_clear_16 : decode cX9_clear 16 = .ok (.iconst 0, 1) := by decide +kernel
theorem dX9_clear_17 : decode cX9_clear 17 = .ok (.putfield 48, 3) := by decide +kernel
theorem dX9_clear_20 : decode cX9_clear 20 = .ok (.iload_n 1, 1) := by decide +kernel
theorem dX9_clear_21 : decode cX9_clear 21 = .ok (.ireturn, 1) := by decide +kernel
theorem dX9_append_0 : decode cX9_append 0 = .ok (.iconst 0, 1) := by decide +kernel
theorem dX9_append_1 : decode cX9_append 1 = .ok (.istore_n 2, 1) := by decide +kernel
theorem dX9_append_2 : decode cX9_append 2 = .ok (.bipush 24, 2) := by decide +kernel
theorem dX9_append_4 : decode cX9_append 4 = .ok (.istore_n 3, 1) := by decide +kernel
theorem dX9_append_5 : decode cX9_append 5 = .ok (.iload_n 3, 1) := by decide +kernel
theorem dX9_append_6 : decode cX9_append 6 = .ok (.ifCond .lt 58, 3) := by decide +kernel
theorem dX9_append_9 : decode cX9_append 9 = .ok (.iload_n 1, 1) := by decide +kernel
theorem dX9_append_10 : decode cX9_append 10 = .ok (.iload_n 3, 1) := by decide +kernel
theorem dX9_append_11 : decode cX9_append 11 = .ok (.invokestatic 65, 3) := by decide +kernel
theorem dX9_append_14 : decode cX9_append 14 = .ok (.istore 4, 2) := by decide +kernel
theorem dX9_append_16 : decode cX9_append 16 = .ok (.iload 4, 2) := by decide +kernel
theorem dX9_append_18 : decode cX9_append 18 = .ok (.ifCond .eq 27, 3) := by decide +kernel
theorem dX9_append_21 : decode cX9_append 21 = .ok (.iload 4, 2) := by decide +kernel
theorem dX9_append_23 : decode cX9_append 23 = .ok (.bipush 32, 2) := by decide +kernel
theorem dX9_append_25 : decode cX9_append 25 = .ok (.if_icmp .lt 10, 3) := by decide +kernel
theorem dX9_append_28 : decode cX9_append 28 = .ok (.iload 4, 2) := by decide +kernel
theorem dX9_append_30 : decode cX9_append 30 = .ok (.bipush 126, 2) := by decide +kernel
theorem dX9_append_32 : decode cX9_append 32 = .ok (.if_icmp .le 13, 3) := by decide +kernel
theorem dX9_append_35 : decode cX9_append 35 = .ok (.new 69, 3) := by decide +kernel
theorem dX9_append_38 : decode cX9_append 38 = .ok (.dup, 1) := by decide +kernel
theorem dX9_append_39 : decode cX9_append 39 = .ok (.ldc 71, 2) := by decide +kernel
theorem dX9_append_41 : decode cX9_append 41 = .ok (.invokespecial 73, 3) := by decide +kernel
theorem dX9_append_44 : decode cX9_append 44 = .ok (.athrow, 1) := by decide +kernel
theorem dX9_append_45 : decode cX9_append 45 = .ok (.iload_n 2, 1) := by decide +kernel
theorem dX9_append_46 : decode cX9_append 46 = .ok (.iload 4, 2) := by decide +kernel
theorem dX9_append_48 : decode cX9_append 48 = .ok (.ifCond .ne 7, 3) := by decide +kernel
theorem dX9_append_51 : decode cX9_append 51 = .ok (.iconst 0, 1) := by decide +kernel
theorem dX9_append_52 : decode cX9_append 52 = .ok (.goto 4, 3) := by decide +kernel
theorem dX9_append_55 : decode cX9_append 55 = .ok (.iconst 1, 1) := by decide +kernel
theorem dX9_append_56 : decode cX9_append 56 = .ok (.iadd, 1) := by decide +kernel
theorem dX9_append_57 : decode cX9_append 57 = .ok (.istore_n 2, 1) := by decide +kernel
theorem dX9_append_58 : decode cX9_append 58 = .ok (.iinc 3 (-8), 3) := by decide +kernel
theorem dX9_append_61 : decode cX9_append 61 = .ok (.goto (-56), 3) := by decide +kernel
theorem dX9_append_64 : decode cX9_append 64 = .ok (.aload_n 0, 1) := by decide +kernel
theorem dX9_append_65 : decode cX9_append 65 = .ok (.getfield 10, 3) := by decide +kernel
theorem dX9_append_68 : decode cX9_append 68 = .ok (.invokevirtual 76, 3) := by decide +kernel
theorem dX9_append_71 : decode cX9_append 71 = .ok (.iload_n 2, 1) := by decide +kernel
theorem dX9_append_72 : decode cX9_append 72 = .ok (.iadd, 1) := by decide +kernel
theorem dX9_append_73 : decode cX9_append 73 = .ok (.bipush 120, 2) := by decide +kernel
theorem dX9_append_75 : decode cX9_append 75 = .ok (.if_icmp .le 13, 3) := by decide +kernel
theorem dX9_append_78 : decode cX9_append 78 = .ok (.new 80, 3) := by decide +kernel
theorem dX9_append_81 : decode cX9_append 81 = .ok (.dup, 1) := by decide +kernel
theorem dX9_append_82 : decode cX9_append 82 = .ok (.ldc 82, 2) := by decide +kernel
theorem dX9_append_84 : decode cX9_append 84 = .ok (.invokespecial 84, 3) := by decide +kernel
theorem dX9_append_87 : decode cX9_append 87 = .ok (.athrow, 1) := by decide +kernel
theorem dX9_append_88 : decode cX9_append 88 = .ok (.bipush 24, 2) := by decide +kernel
theorem dX9_append_90 : decode cX9_append 90 = .ok (.istore_n 3, 1) := by decide +kernel
theorem dX9_append_91 : decode cX9_append 91 = .ok (.iload_n 3, 1) := by decide +kernel
theorem dX9_append_92 : decode cX9_append 92 = .ok (.ifCond .lt 32, 3) := by decide +kernel
theorem dX9_append_95 : decode cX9_append 95 = .ok (.iload_n 1, 1) := by decide +kernel
theorem dX9_append_96 : decode cX9_append 96 = .ok (.iload_n 3, 1) := by decide +kernel
theorem dX9_append_97 : decode cX9_append 97 = .ok (.invokestatic 65, 3) := by decide +kernel
theorem dX9_append_100 : decode cX9_append 100 = .ok (.istore 4, 2) := by decide +kernel
theorem dX9_append_102 : decode cX9_append 102 = .ok (.iload 4, 2) := by decide +kernel
theorem dX9_append_104 : decode cX9_append 104 = .ok (.ifCond .eq 14, 3) := by decide +kernel
theorem dX9_append_107 : decode cX9_append 107 = .ok (.aload_n 0, 1) := by decide +kernel
theorem dX9_append_108 : decode cX9_append 108 = .ok (.getfield 10, 3) := by decide +kernel
theorem dX9_append_111 : decode cX9_append 111 = .ok (.iload 4, 2) := by decide +kernel
theorem dX9_append_113 : decode cX9_append 113 = .ok (.i2c, 1) := by decide +kernel
theorem dX9_append_114 : decode cX9_append 114 = .ok (.invokevirtual 85, 3) := by decide +kernel
theorem dX9_append_117 : decode cX9_append 117 = .ok (.pop, 1) := by decide +kernel
theorem dX9_append_118 : decode cX9_append 118 = .ok (.iinc 3 (-8), 3) := by decide +kernel
theorem dX9_append_121 : decode cX9_append 121 = .ok (.goto (-30), 3) := by decide +kernel
theorem dX9_append_124 : decode cX9_append 124 = .ok (.aload_n 0, 1) := by decide +kernel
theorem dX9_append_125 : decode cX9_append 125 = .ok (.getfield 10, 3) := by decide +kernel
theorem dX9_append_128 : decode cX9_append 128 = .ok (.invokevirtual 76, 3) := by decide +kernel
theorem dX9_append_131 : decode cX9_append 131 = .ok (.ireturn, 1) := by decide +kernel
theorem dX9_addRecord_0 : decode cX9_addRecord 0 = .ok (.iload_n 1, 1) := by decide +kernel
theorem dX9_addRecord_1 : decode cX9_addRecord 1 = .ok (.invokestatic 89, 3) := by decide +kernel
theorem dX9_addRecord_4 : decode cX9_addRecord 4 = .ok (.ifCond .eq 10, 3) := by decide +kernel
theorem dX9_addRecord_7 : decode cX9_addRecord 7 = .ok (.iload_n 2, 1) := by decide +kernel
theorem dX9_addRecord_8 : decode cX9_addRecord 8 = .ok (.invokestatic 93, 3) := by decide +kernel
theorem dX9_addRecord_11 : decode cX9_addRecord 11 = .ok (.ifCond .ne 13, 3) := by decide +kernel
theorem dX9_addRecord_14 : decode cX9_addRecord 14 = .ok (.new 69, 3) := by decide +kernel
theorem dX9_addRecord_17 : decode cX9_addRecord 17 = .ok (.dup, 1) := by decide +kernel
theorem dX9_addRecord_18 : decode cX9_addRecord 18 = .ok (.ldc 96, 2) := by decide +kernel
theorem dX9_addRecord_20 : decode cX9_addRecord 20 = .ok (.invokespecial 73, 3) := by decide +kernel
theorem dX9_addRecord_23 : decode cX9_addRecord 23 = .ok (.athrow, 1) := by decide +kernel
theorem dX9_addRecord_24 : decode cX9_addRecord 24 = .ok (.aload_n 0, 1) := by decide +kernel
theorem dX9_addRecord_25 : decode cX9_addRecord 25 = .ok (.getfield 19, 3) := by decide +kernel
theorem dX9_addRecord_28 : decode cX9_addRecord 28 = .ok (.getfield 59, 3) := by decide +kernel
theorem dX9_addRecord_31 : decode cX9_addRecord 31 = .ok (.bipush 20, 2) := by decide +kernel
theorem dX9_addRecord_33 : decode cX9_addRecord 33 = .ok (.if_icmp .lt 13, 3) := by decide +kernel
theorem dX9_addRecord_36 : decode cX9_addRecord 36 = .ok (.new 80, 3) := by decide +kernel
theorem dX9_addRecord_39 : decode cX9_addRecord 39 = .ok (.dup, 1) := by decide +kernel
theorem dX9_addRecord_40 : decode cX9_addRecord 40 = .ok (.ldc 98, 2) := by decide +kernel
theorem dX9_addRecord_42 : decode cX9_addRecord 42 = .ok (.invokespecial 84, 3) := by decide +kernel
theorem dX9_addRecord_45 : decode cX9_addRecord 45 = .ok (.athrow, 1) := by decide +kernel
theorem dX9_addRecord_46 : decode cX9_addRecord 46 = .ok (.aload_n 0, 1) := by decide +kernel
theorem dX9_addRecord_47 : decode cX9_addRecord 47 = .ok (.invokevirtual 100, 3) := by decide +kernel
theorem dX9_addRecord_50 : decode cX9_addRecord 50 = .ok (.aload_n 0, 1) := by decide +kernel
theorem dX9_addRecord_51 : decode cX9_addRecord 51 = .ok (.getfield 19, 3) := by decide +kernel
theorem dX9_addRecord_54 : decode cX9_addRecord 54 = .ok (.new 103, 3) := by decide +kernel
theorem dX9_addRecord_57 : decode cX9_addRecord 57 = .ok (.dup, 1) := by decide +kernel
theorem dX9_addRecord_58 : decode cX9_addRecord 58 = .ok (.iload_n 1, 1) := by decide +kernel
theorem dX9_addRecord_59 : decode cX9_addRecord 59 = .ok (.iload_n 2, 1) := by decide +kernel
theorem dX9_addRecord_60 : decode cX9_addRecord 60 = .ok (.invokespecial 105, 3) := by decide +kernel
theorem dX9_addRecord_63 : decode cX9_addRecord 63 = .ok (.invokevirtual 108, 3) := by decide +kernel
theorem dX9_addRecord_66 : decode cX9_addRecord 66 = .ok (.aload_n 0, 1) := by decide +kernel
theorem dX9_addRecord_67 : decode cX9_addRecord 67 = .ok (.getfield 19, 3) := by decide +kernel
theorem dX9_addRecord_70 : decode cX9_addRecord 70 = .ok (.getfield 59, 3) := by decide +kernel
