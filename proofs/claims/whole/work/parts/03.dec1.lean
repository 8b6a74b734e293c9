theorem dX9_addRecord_73 : decode cX9_addRecord 73 = .ok (.iconst 1, 1) := by decide +kernel
theorem dX9_addRecord_74 : decode cX9_addRecord 74 = .ok (.isub, 1) := by decide +kernel
theorem dX9_addRecord_75 : decode cX9_addRecord 75 = .ok (.ireturn, 1) := by decide +kernel
theorem dX9_removeRecord_0 : decode cX9_removeRecord 0 = .ok (.aload_n 0, 1) := by decide +kernel
theorem dX9_removeRecord_1 : decode cX9_removeRecord 1 = .ok (.iload_n 1, 1) := by decide +kernel
theorem dX9_removeRecord_2 : decode cX9_removeRecord 2 = .ok (.invokevirtual 112, 3) := by decide +kernel
theorem dX9_removeRecord_5 : decode cX9_removeRecord 5 = .ok (.pop, 1) := by decide +kernel
theorem dX9_removeRecord_6 : decode cX9_removeRecord 6 = .ok (.aload_n 0, 1) := by decide +kernel
theorem dX9_removeRecord_7 : decode cX9_removeRecord 7 = .ok (.invokevirtual 100, 3) := by decide +kernel
theorem dX9_removeRecord_10 : decode cX9_removeRecord 10 = .ok (.aload_n 0, 1) := by decide +kernel
theorem dX9_removeRecord_11 : decode cX9_removeRecord 11 = .ok (.getfield 19, 3) := by decide +kernel
theorem dX9_removeRecord_14 : decode cX9_removeRecord 14 = .ok (.iload_n 1, 1) := by decide +kernel
theorem dX9_removeRecord_15 : decode cX9_removeRecord 15 = .ok (.invokevirtual 116, 3) := by decide +kernel
theorem dX9_removeRecord_18 : decode cX9_removeRecord 18 = .ok (.aload_n 0, 1) := by decide +kernel
theorem dX9_removeRecord_19 : decode cX9_removeRecord 19 = .ok (.getfield 19, 3) := by decide +kernel
theorem dX9_removeRecord_22 : decode cX9_removeRecord 22 = .ok (.getfield 59, 3) := by decide +kernel
theorem dX9_removeRecord_25 : decode cX9_removeRecord 25 = .ok (.ireturn, 1) := by decide +kernel
theorem dX9_moveRecord_0 : decode cX9_moveRecord 0 = .ok (.aload_n 0, 1) := by decide +kernel
theorem dX9_moveRecord_1 : decode cX9_moveRecord 1 = .ok (.iload_n 1, 1) := by decide +kernel
theorem dX9_moveRecord_2 : decode cX9_moveRecord 2 = .ok (.invokevirtual 112, 3) := by decide +kernel
theorem dX9_moveRecord_5 : decode cX9_moveRecord 5 = .ok (.pop, 1) := by decide +kernel
theorem dX9_moveRecord_6 : decode cX9_moveRecord 6 = .ok (.aload_n 0, 1) := by decide +kernel
theorem dX9_moveRecord_7 : decode cX9_moveRecord 7 = .ok (.iload_n 2, 1) := by decide +kernel
theorem dX9_moveRecord_8 : decode cX9_moveRecord 8 = .ok (.invokevirtual 112, 3) := by decide +kernel
theorem dX9_moveRecord_11 : decode cX9_moveRecord 11 = .ok (.pop, 1) := by decide +kernel
theorem dX9_moveRecord_12 : decode cX9_moveRecord 12 = .ok (.aload_n 0, 1) := by decide +kernel
theorem dX9_moveRecord_13 : decode cX9_moveRecord 13 = .ok (.invokevirtual 100, 3) := by decide +kernel
theorem dX9_moveRecord_16 : decode cX9_moveRecord 16 = .ok (.aload_n 0, 1) := by decide +kernel
theorem dX9_moveRecord_17 : decode cX9_moveRecord 17 = .ok (.getfield 19, 3) := by decide +kernel
theorem dX9_moveRecord_20 : decode cX9_moveRecord 20 = .ok (.iload_n 1, 1) := by decide +kernel
theorem dX9_moveRecord_21 : decode cX9_moveRecord 21 = .ok (.iload_n 2, 1) := by decide +kernel
theorem dX9_moveRecord_22 : decode cX9_moveRecord 22 = .ok (.invokevirtual 120, 3) := by decide +kernel
theorem dX9_moveRecord_25 : decode cX9_moveRecord 25 = .ok (.iload_n 1, 1) := by decide +kernel
theorem dX9_moveRecord_26 : decode cX9_moveRecord 26 = .ok (.iload_n 2, 1) := by decide +kernel
theorem dX9_moveRecord_27 : decode cX9_moveRecord 27 = .ok (.if_icmp .ne 7, 3) := by decide +kernel
theorem dX9_moveRecord_30 : decode cX9_moveRecord 30 = .ok (.iconst 0, 1) := by decide +kernel
theorem dX9_moveRecord_31 : decode cX9_moveRecord 31 = .ok (.goto 11, 3) := by decide +kernel
theorem dX9_moveRecord_34 : decode cX9_moveRecord 34 = .ok (.iload_n 1, 1) := by decide +kernel
theorem dX9_moveRecord_35 : decode cX9_moveRecord 35 = .ok (.iload_n 2, 1) := by decide +kernel
theorem dX9_moveRecord_36 : decode cX9_moveRecord 36 = .ok (.isub, 1) := by decide +kernel
theorem dX9_moveRecord_37 : decode cX9_moveRecord 37 = .ok (.invokestatic 123, 3) := by decide +kernel
theorem dX9_moveRecord_40 : decode cX9_moveRecord 40 = .ok (.iconst 1, 1) := by decide +kernel
theorem dX9_moveRecord_41 : decode cX9_moveRecord 41 = .ok (.iadd, 1) := by decide +kernel
theorem dX9_moveRecord_42 : decode cX9_moveRecord 42 = .ok (.ireturn, 1) := by decide +kernel
theorem dX9_sort_0 : decode cX9_sort 0 = .ok (.iload_n 1, 1) := by decide +kernel
theorem dX9_sort_1 : decode cX9_sort 1 = .ok (.invokestatic 129, 3) := by decide +kernel
theorem dX9_sort_4 : decode cX9_sort 4 = .ok (.aload_n 0, 1) := by decide +kernel
theorem dX9_sort_5 : decode cX9_sort 5 = .ok (.invokevirtual 100, 3) := by decide +kernel
theorem dX9_sort_8 : decode cX9_sort 8 = .ok (.aload_n 0, 1) := by decide +kernel
theorem dX9_sort_9 : decode cX9_sort 9 = .ok (.getfield 19, 3) := by decide +kernel
theorem dX9_sort_12 : decode cX9_sort 12 = .ok (.iload_n 1, 1) := by decide +kernel
theorem dX9_sort_13 : decode cX9_sort 13 = .ok (.iload_n 2, 1) := by decide +kernel
theorem dX9_sort_14 : decode cX9_sort 14 = .ok (.aload_n 0, 1) := by decide +kernel
theorem dX9_sort_15 : decode cX9_sort 15 = .ok (.getfield 44, 3) := by decide +kernel
theorem dX9_sort_18 : decode cX9_sort 18 = .ok (.invokevirtual 132, 3) := by decide +kernel
theorem dX9_sort_21 : decode cX9_sort 21 = .ok (.ireturn, 1) := by decide +kernel
theorem dX9_setField_0 : decode cX9_setField 0 = .ok (.aload_n 0, 1) := by decide +kernel
theorem dX9_setField_1 : decode cX9_setField 1 = .ok (.iload_n 1, 1) := by decide +kernel
theorem dX9_setField_2 : decode cX9_setField 2 = .ok (.invokevirtual 112, 3) := by decide +kernel
theorem dX9_setField_5 : decode cX9_setField 5 = .ok (.astore_n 3, 1) := by decide +kernel
theorem dX9_setField_6 : decode cX9_setField 6 = .ok (.iload_n 2, 1) := by decide +kernel
theorem dX9_setField_7 : decode cX9_setField 7 = .ok (.invokestatic 129, 3) := by decide +kernel
theorem dX9_setField_10 : decode cX9_setField 10 = .ok (.aload_n 0, 1) := by decide +kernel
theorem dX9_setField_11 : decode cX9_setField 11 = .ok (.invokevirtual 136, 3) := by decide +kernel
theorem dX9_setField_14 : decode cX9_setField 14 = .ok (.astore 4, 2) := by decide +kernel
theorem dX9_setField_16 : decode cX9_setField 16 = .ok (.aload_n 0, 1) := by decide +kernel
theorem dX9_setField_17 : decode cX9_setField 17 = .ok (.invokevirtual 100, 3) := by decide +kernel
theorem dX9_setField_20 : decode cX9_setField 20 = .ok (.aload_n 0, 1) := by decide +kernel
theorem dX9_setField_21 : decode cX9_setField 21 = .ok (.getfield 19, 3) := by decide +kernel
theorem dX9_setField_24 : decode cX9_setField 24 = .ok (.iload_n 1, 1) := by decide +kernel
theorem dX9_setField_25 : decode cX9_setField 25 = .ok (.aload_n 3, 1) := by decide +kernel
theorem dX9_setField_26 : decode cX9_setField 26 = .ok (.iload_n 2, 1) := by decide +kernel
theorem dX9_setField_27 : decode cX9_setField 27 = .ok (.aload 4, 2) := by decide +kernel
theorem dX9_setField_29 : decode cX9_setField 29 = .ok (.invokevirtual 140, 3) := by decide +kernel
theorem dX9_setField_32 : decode cX9_setField 32 = .ok (.invokevirtual 144, 3) := by decide +kernel
theorem dX9_setField_35 : decode cX9_setField 35 = .ok (.aload_n 3, 1) := by decide +kernel
theorem dX9_setField_36 : decode cX9_setField 36 = .ok (.iload_n 2, 1) := by decide +kernel
theorem dX9_setField_37 : decode cX9_setField 37 = .ok (.invokevirtual 148, 3) := by decide +kernel
theorem dX9_setField_40 : decode cX9_setField 40 = .ok (.invokevirtual 152, 3) := by decide +kernel
theorem dX9_setField_43 : decode cX9_setField 43 = .ok (.ireturn, 1) := by decide +kernel
theorem dX9_setNumber_0 : decode cX9_setNumber 0 = .ok (.aload_n 0, 1) := by decide +kernel
theorem dX9_setNumber_1 : decode cX9_setNumber 1 = .ok (.iload_n 1, 1) := by decide +kernel
theorem dX9_setNumber_2 : decode cX9_setNumber 2 = .ok (.invokevirtual 112, 3) := by decide +kernel
theorem dX9_setNumber_5 : decode cX9_setNumber 5 = .ok (.astore 4, 2) := by decide +kernel
theorem dX9_setNumber_7 : decode cX9_setNumber 7 = .ok (.iload_n 2, 1) := by decide +kernel
theorem dX9_setNumber_8 : decode cX9_setNumber 8 = .ok (.ifCond .eq 13, 3) := by decide +kernel
theorem dX9_setNumber_11 : decode cX9_setNumber 11 = .ok (.iload_n 3, 1) := by decide +kernel
theorem dX9_setNumber_12 : decode cX9_setNumber 12 = .ok (.invokestatic 93, 3) := by decide +kernel
theorem dX9_setNumber_15 : decode cX9_setNumber 15 = .ok (.ifCond .ne 23, 3) := by decide +kernel
theorem dX9_setNumber_18 : decode cX9_setNumber 18 = .ok (.goto 10, 3) := by decide +kernel
theorem dX9_setNumber_21 : decode cX9_setNumber 21 = .ok (.iload_n 3, 1) := by decide +kernel
theorem dX9_setNumber_22 : decode cX9_setNumber 22 = .ok (.invokestatic 89, 3) := by decide +kernel
theorem dX9_setNumber_25 : decode cX9_setNumber 25 = .ok (.ifCond .ne 13, 3) := by decide +kernel
theorem dX9_setNumber_28 : decode cX9_setNumber 28 = .ok (.new 69, 3) := by decide +kernel
theorem dX9_setNumber_31 : decode cX9_setNumber 31 = .ok (.dup, 1) := by decide +kernel
theorem dX9_setNumber_32 : decode cX9_setNumber 32 = .ok (.ldc 155, 2) := by decide +kernel
theorem dX9_setNumber_34 : decode cX9_setNumber 34 = .ok (.invokespecial 73, 3) := by decide +kernel
theorem dX9_setNumber_37 : decode cX9_setNumber 37 = .ok (.athrow, 1) := by decide +kernel
theorem dX9_setNumber_38 : decode cX9_setNumber 38 = .ok (.aload_n 0, 1) := by decide +kernel
theorem dX9_setNumber_39 : decode cX9_setNumber 39 = .ok (.invokevirtual 100, 3) := by decide +kernel
theorem dX9_setNumber_42 : decode cX9_setNumber 42 = .ok (.aload_n 0, 1) := by decide +kernel
theorem dX9_setNumber_43 : decode cX9_setNumber 43 = .ok (.getfield 19, 3) := by decide +kernel
theorem dX9_setNumber_46 : decode cX9_setNumber 46 = .ok (.iload_n 1, 1) := by decide +kernel
theorem dX9_setNumber_47 : decode cX9_setNumber 47 = .ok (.iload_n 2, 1) := by decide +kernel
theorem dX9_setNumber_48 : decode cX9_setNumber 48 = .ok (.ifCond .eq 12, 3) := by decide +kernel
theorem dX9_setNumber_51 : decode cX9_setNumber 51 = .ok (.aload 4, 2) := by decide +kernel
theorem dX9_setNumber_53 : decode cX9_setNumber 53 = .ok (.iload_n 3, 1) := by decide +kernel
theorem dX9_setNumber_54 : decode cX9_setNumber 54 = .ok (.invokevirtual 157, 3) := by decide +kernel
theorem dX9_setNumber_57 : decode cX9_setNumber 57 = .ok (.goto 9, 3) := by decide +kernel
theorem dX9_setNumber_60 : decode cX9_setNumber 60 = .ok (.aload 4, 2) := by decide +kernel
theorem dX9_setNumber_62 : decode cX9_setNumber 62 = .ok (.iload_n 3, 1) := by decide +kernel
theorem dX9_setNumber_63 : decode cX9_setNumber 63 = .ok (.invokevirtual 160, 3) := by decide +kernel
theorem dX9_setNumber_66 : decode cX9_setNumber 66 = .ok (.invokevirtual 144, 3) := by decide +kernel
theorem dX9_setNumber_69 : decode cX9_setNumber 69 = .ok (.iload_n 2, 1) := by decide +kernel
theorem dX9_setNumber_70 : decode cX9_setNumber 70 = .ok (.ifCond .eq 11, 3) := by decide +kernel
theorem dX9_setNumber_73 : decode cX9_setNumber 73 = .ok (.aload 4, 2) := by decide +kernel
theorem dX9_setNumber_75 : decode cX9_setNumber 75 = .ok (.getfield 163, 3) := by decide +kernel
theorem dX9_setNumber_78 : decode cX9_setNumber 78 = .ok (.goto 8, 3) := by decide +kernel
theorem dX9_setNumber_81 : decode cX9_setNumber 81 = .ok (.aload 4, 2) := by decide +kernel
theorem dX9_setNumber_83 : decode cX9_setNumber 83 = .ok (.getfield 166, 3) := by decide +kernel
theorem dX9_setNumber_86 : decode cX9_setNumber 86 = .ok (.ireturn, 1) := by decide +kernel
theorem dX9_field_0 : decode cX9_field 0 = .ok (.aload_n 0, 1) := by decide +kernel
theorem dX9_field_1 : decode cX9_field 1 = .ok (.iload_n 1, 1) := by decide +kernel
theorem dX9_field_2 : decode cX9_field 2 = .ok (.invokevirtual 112, 3) := by decide +kernel
theorem dX9_field_5 : decode cX9_field 5 = .ok (.astore 4, 2) := by decide +kernel
theorem dX9_field_7 : decode cX9_field 7 = .ok (.iload_n 2, 1) := by decide +kernel
theorem dX9_field_8 : decode cX9_field 8 = .ok (.invokestatic 129, 3) := by decide +kernel
theorem dX9_field_11 : decode cX9_field 11 = .ok (.aload 4, 2) := by decide +kernel
theorem dX9_field_13 : decode cX9_field 13 = .ok (.iload_n 2, 1) := by decide +kernel
theorem dX9_field_14 : decode cX9_field 14 = .ok (.invokevirtual 148, 3) := by decide +kernel
theorem dX9_field_17 : decode cX9_field 17 = .ok (.astore 5, 2) := by decide +kernel
theorem dX9_field_19 : decode cX9_field 19 = .ok (.iload_n 3, 1) := by decide +kernel
theorem dX9_field_20 : decode cX9_field 20 = .ok (.iconst (-1), 1) := by decide +kernel
theorem dX9_field_21 : decode cX9_field 21 = .ok (.if_icmp .lt 12, 3) := by decide +kernel
theorem dX9_field_24 : decode cX9_field 24 = .ok (.iload_n 3, 1) := by decide +kernel
theorem dX9_field_25 : decode cX9_field 25 = .ok (.aload 5, 2) := by decide +kernel
theorem dX9_field_27 : decode cX9_field 27 = .ok (.invokevirtual 152, 3) := by decide +kernel
theorem dX9_field_30 : decode cX9_field 30 = .ok (.if_icmp .lt 13, 3) := by decide +kernel
theorem dX9_field_33 : decode cX9_field 33 = .ok (.new 169, 3) := by decide +kernel
theorem dX9_field_36 : decode cX9_field 36 = .ok (.dup, 1) := by decide +kernel
theorem dX9_field_37 : decode cX9_field 37 = .ok (.ldc 171, 2) := by decide +kernel
theorem dX9_field_39 : decode cX9_field 39 = .ok (.invokespecial 173, 3) := by decide +kernel
theorem dX9_field_42 : decode cX9_field 42 = .ok (.athrow, 1) := by decide +kernel
theorem dX9_field_43 : decode cX9_field 43 = .ok (.iload_n 3, 1) := by decide +kernel
theorem dX9_field_44 : decode cX9_field 44 = .ok (.iconst (-1), 1) := by decide +kernel
theorem dX9_field_45 : decode cX9_field 45 = .ok (.if_icmp .ne 11, 3) := by decide +kernel
theorem dX9_field_48 : decode cX9_field 48 = .ok (.aload 5, 2) := by decide +kernel
theorem dX9_field_50 : decode cX9_field 50 = .ok (.invokevirtual 152, 3) := by decide +kernel
theorem dX9_field_53 : decode cX9_field 53 = .ok (.goto 9, 3) := by decide +kernel
theorem dX9_field_56 : decode cX9_field 56 = .ok (.aload 5, 2) := by decide +kernel
theorem dX9_field_58 : decode cX9_field 58 = .ok (.iload_n 3, 1) := by decide +kernel
theorem dX9_field_59 : decode cX9_field 59 = .ok (.invokevirtual 174, 3) := by decide +kernel
theorem dX9_field_62 : decode cX9_field 62 = .ok (.ireturn, 1) := by decide +kernel
theorem dX9_record_0 : decode cX9_record 0 = .ok (.aload_n 0, 1) := by decide +kernel
theorem dX9_record_1 : decode cX9_record 1 = .ok (.iload_n 1, 1) := by decide +kernel
theorem dX9_record_2 : decode cX9_record 2 = .ok (.invokevirtual 112, 3) := by decide +kernel
theorem dX9_record_5 : decode cX9_record 5 = .ok (.astore_n 3, 1) := by decide +kernel
theorem dX9_record_6 : decode cX9_record 6 = .ok (.iload_n 2, 1) := by decide +kernel
theorem dX9_record_7 : decode cX9_record 7 = .ok (.tableswitch 56 0 3 #[29, 34, 39, 44], 29) := by decide +kernel
theorem dX9_record_36 : decode cX9_record 36 = .ok (.aload_n 3, 1) := by decide +kernel
theorem dX9_record_37 : decode cX9_record 37 = .ok (.getfield 166, 3) := by decide +kernel
theorem dX9_record_40 : decode cX9_record 40 = .ok (.ireturn, 1) := by decide +kernel
theorem dX9_record_41 : decode cX9_record 41 = .ok (.aload_n 3, 1) := by decide +kernel
theorem dX9_record_42 : decode cX9_record 42 = .ok (.getfield 163, 3) := by decide +kernel
theorem dX9_record_45 : decode cX9_record 45 = .ok (.ireturn, 1) := by decide +kernel
theorem dX9_record_46 : decode cX9_record 46 = .ok (.aload_n 3, 1) := by decide +kernel
theorem dX9_record_47 : decode cX9_record 47 = .ok (.invokevirtual 178, 3) := by decide +kernel
theorem dX9_record_50 : decode cX9_record 50 = .ok (.ireturn, 1) := by decide +kernel
theorem dX9_record_51 : decode cX9_record 51 = .ok (.aload_n 0, 1) := by decide +kernel
theorem dX9_record_52 : decode cX9_record 52 = .ok (.getfield 19, 3) := by decide +kernel
theorem dX9_record_55 : decode cX9_record 55 = .ok (.aload_n 3, 1) := by decide +kernel
theorem dX9_record_56 : decode cX9_record 56 = .ok (.invokevirtual 181, 3) := by decide +kernel
theorem dX9_record_59 : decode cX9_record 59 = .ok (.invokestatic 185, 3) := by decide +kernel
theorem dX9_record_62 : decode cX9_record 62 = .ok (.ireturn, 1) := by decide +kernel
theorem dX9_record_63 : decode cX9_record 63 = .ok (.new 69, 3) := by decide +kernel
theorem dX9_record_66 : decode cX9_record 66 = .ok (.dup, 1) := by decide +kernel
theorem dX9_record_67 : decode cX9_record 67 = .ok (.ldc 190, 2) := by decide +kernel
theorem dX9_record_69 : decode cX9_record 69 = .ok (.invokespecial 73, 3) := by decide +kernel
theorem dX9_record_72 : decode cX9_record 72 = .ok (.athrow, 1) := by decide +kernel
theorem dX9_setTemplate_0 : decode cX9_setTemplate 0 = .ok (.new 192, 3) := by decide +kernel
theorem dX9_setTemplate_3 : decode cX9_setTemplate 3 = .ok (.dup, 1) := by decide +kernel
theorem dX9_setTemplate_4 : decode cX9_setTemplate 4 = .ok (.aload_n 0, 1) := by decide +kernel
theorem dX9_setTemplate_5 : decode cX9_setTemplate 5 = .ok (.invokevirtual 194, 3) := by decide +kernel
theorem dX9_setTemplate_8 : decode cX9_setTemplate 8 = .ok (.invokespecial 198, 3) := by decide +kernel
theorem dX9_setTemplate_11 : decode cX9_setTemplate 11 = .ok (.astore_n 1, 1) := by decide +kernel
theorem dX9_setTemplate_12 : decode cX9_setTemplate 12 = .ok (.aload_n 1, 1) := by decide +kernel
theorem dX9_setTemplate_13 : decode cX9_setTemplate 13 = .ok (.invokevirtual 199, 3) := by decide +kernel
theorem dX9_setTemplate_16 : decode cX9_setTemplate 16 = .ok (.ifCond .ne 21, 3) := by decide +kernel
theorem dX9_setTemplate_19 : decode cX9_setTemplate 19 = .ok (.aload_n 0, 1) := by decide +kernel
theorem dX9_setTemplate_20 : decode cX9_setTemplate 20 = .ok (.aload_n 1, 1) := by decide +kernel
theorem dX9_setTemplate_21 : decode cX9_setTemplate 21 = .ok (.getfield 203, 3) := by decide +kernel
theorem dX9_setTemplate_24 : decode cX9_setTemplate 24 = .ok (.putfield 52, 3) := by decide +kernel
theorem dX9_setTemplate_27 : decode cX9_setTemplate 27 = .ok (.new 69, 3) := by decide +kernel
theorem dX9_setTemplate_30 : decode cX9_setTemplate 30 = .ok (.dup, 1) := by decide +kernel
theorem dX9_setTemplate_31 : decode cX9_setTemplate 31 = .ok (.ldc 206, 2) := by decide +kernel
theorem dX9_setTemplate_33 : decode cX9_setTemplate 33 = .ok (.invokespecial 73, 3) := by decide +kernel
theorem dX9_setTemplate_36 : decode cX9_setTemplate 36 = .ok (.athrow, 1) := by decide +kernel
theorem dX9_setTemplate_37 : decode cX9_setTemplate 37 = .ok (.aload_n 0, 1) := by decide +kernel
theorem dX9_setTemplate_38 : decode cX9_setTemplate 38 = .ok (.invokevirtual 100, 3) := by decide +kernel
theorem dX9_setTemplate_41 : decode cX9_setTemplate 41 = .ok (.aload_n 0, 1) := by decide +kernel
theorem dX9_setTemplate_42 : decode cX9_setTemplate 42 = .ok (.getfield 19, 3) := by decide +kernel
theorem dX9_setTemplate_45 : decode cX9_setTemplate 45 = .ok (.aload_n 1, 1) := by decide +kernel
theorem dX9_setTemplate_46 : decode cX9_setTemplate 46 = .ok (.getfield 208, 3) := by decide +kernel
theorem dX9_setTemplate_49 : decode cX9_setTemplate 49 = .ok (.putfield 212, 3) := by decide +kernel
theorem dX9_setTemplate_52 : decode cX9_setTemplate 52 = .ok (.aload_n 1, 1) := by decide +kernel
theorem dX9_setTemplate_53 : decode cX9_setTemplate 53 = .ok (.getfield 208, 3) := by decide +kernel
theorem dX9_setTemplate_56 : decode cX9_setTemplate 56 = .ok (.getfield 213, 3) := by decide +kernel
theorem dX9_setTemplate_59 : decode cX9_setTemplate 59 = .ok (.ireturn, 1) := by decide +kernel
theorem dX9_errorPosition_0 : decode cX9_errorPosition 0 = .ok (.aload_n 0, 1) := by decide +kernel
theorem dX9_errorPosition_1 : decode cX9_errorPosition 1 = .ok (.getfield 52, 3) := by decide +kernel
theorem dX9_errorPosition_4 : decode cX9_errorPosition 4 = .ok (.ifCond .ge 13, 3) := by decide +kernel
theorem dX9_errorPosition_7 : decode cX9_errorPosition 7 = .ok (.new 169, 3) := by decide +kernel
theorem dX9_errorPosition_10 : decode cX9_errorPosition 10 = .ok (.dup, 1) := by decide +kernel
theorem dX9_errorPosition_11 : decode cX9_errorPosition 11 = .ok (.ldc 216, 2) := by decide +kernel
theorem dX9_errorPosition_13 : decode cX9_errorPosition 13 = .ok (.invokespecial 173, 3) := by decide +kernel
theorem dX9_errorPosition_16 : decode cX9_errorPosition 16 = .ok (.athrow, 1) := by decide +kernel
theorem dX9_errorPosition_17 : decode cX9_errorPosition 17 = .ok (.aload_n 0, 1) := by decide +kernel
theorem dX9_errorPosition_18 : decode cX9_errorPosition 18 = .ok (.getfield 52, 3) := by decide +kernel
theorem dX9_errorPosition_21 : decode cX9_errorPosition 21 = .ok (.ireturn, 1) := by decide +kernel
theorem dX9_template_0 : decode cX9_template 0 = .ok (.aload_n 0, 1) := by decide +kernel
theorem dX9_template_1 : decode cX9_template 1 = .ok (.getfield 19, 3) := by decide +kernel
theorem dX9_template_4 : decode cX9_template 4 = .ok (.getfield 212, 3) := by decide +kernel
theorem dX9_template_7 : decode cX9_template 7 = .ok (.astore_n 2, 1) := by decide +kernel
theorem dX9_template_8 : decode cX9_template 8 = .ok (.iload_n 1, 1) := by decide +kernel
theorem dX9_template_9 : decode cX9_template 9 = .ok (.tableswitch 60 0 4 #[35, 40, 45, 50, 55], 35) := by decide +kernel
theorem dX9_template_44 : decode cX9_template 44 = .ok (.aload_n 2, 1) := by decide +kernel
theorem dX9_template_45 : decode cX9_template 45 = .ok (.getfield 213, 3) := by decide +kernel
theorem dX9_template_48 : decode cX9_template 48 = .ok (.ireturn, 1) := by decide +kernel
theorem dX9_template_49 : decode cX9_template 49 = .ok (.aload_n 2, 1) := by decide +kernel
theorem dX9_template_50 : decode cX9_template 50 = .ok (.getfield 218, 3) := by decide +kernel
theorem dX9_template_53 : decode cX9_template 53 = .ok (.ireturn, 1) := by decide +kernel
theorem dX9_template_54 : decode cX9_template 54 = .ok (.aload_n 2, 1) := by decide +kernel
theorem dX9_template_55 : decode cX9_template 55 = .ok (.getfield 220, 3) := by decide +kernel
theorem dX9_template_58 : decode cX9_template 58 = .ok (.ireturn, 1) := by decide +kernel
theorem dX9_template_59 : decode cX9_template 59 = .ok (.aload_n 2, 1) := by decide +kernel
theorem dX9_template_60 : decode cX9_template 60 = .ok (.getfield 223, 3) := by decide +kernel
theorem dX9_template_63 : decode cX9_template 63 = .ok (.ireturn, 1) := by decide +kernel
theorem dX9_template_64 : decode cX9_template 64 = .ok (.aload_n 2, 1) := by decide +kernel
theorem dX9_template_65 : decode cX9_template 65 = .ok (.getfield 226, 3) := by decide +kernel
theorem dX9_template_68 : decode cX9_template 68 = .ok (.ireturn, 1) := by decide +kernel
theorem dX9_template_69 : decode cX9_template 69 = .ok (.new 69, 3) := by decide +kernel
theorem dX9_template_72 : decode cX9_template 72 = .ok (.dup, 1) := by decide +kernel
theorem dX9_template_73 : decode cX9_template 73 = .ok (.ldc 229, 2) := by decide +kernel
theorem dX9_template_75 : decode cX9_template 75 = .ok (.invokespecial 73, 3) := by decide +kernel
theorem dX9_template_78 : decode cX9_template 78 = .ok (.athrow, 1) := by decide +kernel
theorem dX9_item_0 : decode cX9_item 0 = .ok (.aload_n 0, 1) := by decide +kernel
theorem dX9_item_1 : decode cX9_item 1 = .ok (.iload_n 1, 1) := by decide +kernel
theorem dX9_item_2 : decode cX9_item 2 = .ok (.invokevirtual 231, 3) := by decide +kernel
theorem dX9_item_5 : decode cX9_item 5 = .ok (.astore_n 3, 1) := by decide +kernel
theorem dX9_item_6 : decode cX9_item 6 = .ok (.iload_n 2, 1) := by decide +kernel
theorem dX9_item_7 : decode cX9_item 7 = .ok (.tableswitch 49 0 3 #[29, 34, 39, 44], 29) := by decide +kernel
theorem dX9_item_36 : decode cX9_item 36 = .ok (.aload_n 3, 1) := by decide +kernel
theorem dX9_item_37 : decode cX9_item 37 = .ok (.getfield 235, 3) := by decide +kernel
theorem dX9_item_40 : decode cX9_item 40 = .ok (.ireturn, 1) := by decide +kernel
theorem dX9_item_41 : decode cX9_item 41 = .ok (.aload_n 3, 1) := by decide +kernel
theorem dX9_item_42 : decode cX9_item 42 = .ok (.getfield 240, 3) := by decide +kernel
theorem dX9_item_45 : decode cX9_item 45 = .ok (.ireturn, 1) := by decide +kernel
theorem dX9_item_46 : decode cX9_item 46 = .ok (.aload_n 3, 1) := by decide +kernel
theorem dX9_item_47 : decode cX9_item 47 = .ok (.getfield 243, 3) := by decide +kernel
theorem dX9_item_50 : decode cX9_item 50 = .ok (.ireturn, 1) := by decide +kernel
theorem dX9_item_51 : decode cX9_item 51 = .ok (.aload_n 3, 1) := by decide +kernel
theorem dX9_item_52 : decode cX9_item 52 = .ok (.getfield 246, 3) := by decide +kernel
theorem dX9_item_55 : decode cX9_item 55 = .ok (.ireturn, 1) := by decide +kernel
theorem dX9_item_56 : decode cX9_item 56 = .ok (.new 69, 3) := by decide +kernel
theorem dX9_item_59 : decode cX9_item 59 = .ok (.dup, 1) := by decide +kernel
theorem dX9_item_60 : decode cX9_item 60 = .ok (.ldc 249, 2) := by decide +kernel
theorem dX9_item_62 : decode cX9_item 62 = .ok (.invokespecial 73, 3) := by decide +kernel
theorem dX9_item_65 : decode cX9_item 65 = .ok (.athrow, 1) := by decide +kernel
theorem dX9_counts_0 : decode cX9_counts 0 = .ok (.aload_n 0, 1) := by decide +kernel
theorem dX9_counts_1 : decode cX9_counts 1 = .ok (.iload_n 1, 1) := by decide +kernel
theorem dX9_counts_2 : decode cX9_counts 2 = .ok (.invokevirtual 112, 3) := by decide +kernel
theorem dX9_counts_5 : decode cX9_counts 5 = .ok (.astore_n 3, 1) := by decide +kernel
theorem dX9_counts_6 : decode cX9_counts 6 = .ok (.aload_n 0, 1) := by decide +kernel
theorem dX9_counts_7 : decode cX9_counts 7 = .ok (.iload_n 2, 1) := by decide +kernel
theorem dX9_counts_8 : decode cX9_counts 8 = .ok (.invokevirtual 231, 3) := by decide +kernel
theorem dX9_counts_11 : decode cX9_counts 11 = .ok (.astore 4, 2) := by decide +kernel
theorem dX9_counts_13 : decode cX9_counts 13 = .ok (.iconst 1, 1) := by decide +kernel
theorem dX9_counts_14 : decode cX9_counts 14 = .ok (.istore 5, 2) := by decide +kernel
theorem dX9_counts_16 : decode cX9_counts 16 = .ok (.iconst 0, 1) := by decide +kernel
theorem dX9_counts_17 : decode cX9_counts 17 = .ok (.istore 6, 2) := by decide +kernel
theorem dX9_counts_19 : decode cX9_counts 19 = .ok (.iload 6, 2) := by decide +kernel
theorem dX9_counts_21 : decode cX9_counts 21 = .ok (.iconst 4, 1) := by decide +kernel
theorem dX9_counts_22 : decode cX9_counts 22 = .ok (.if_icmp .gt 52, 3) := by decide +kernel
theorem dX9_counts_25 : decode cX9_counts 25 = .ok (.aload 4, 2) := by decide +kernel
theorem dX9_counts_27 : decode cX9_counts 27 = .ok (.ifnull 47, 3) := by decide +kernel
theorem dX9_counts_30 : decode cX9_counts 30 = .ok (.iload 5, 2) := by decide +kernel
theorem dX9_counts_32 : decode cX9_counts 32 = .ok (.ifCond .eq 16, 3) := by decide +kernel
theorem dX9_counts_35 : decode cX9_counts 35 = .ok (.aload 4, 2) := by decide +kernel
theorem dX9_counts_37 : decode cX9_counts 37 = .ok (.aload_n 3, 1) := by decide +kernel
theorem dX9_counts_38 : decode cX9_counts 38 = .ok (.invokevirtual 251, 3) := by decide +kernel
theorem dX9_counts_41 : decode cX9_counts 41 = .ok (.ifCond .eq 7, 3) := by decide +kernel
theorem dX9_counts_44 : decode cX9_counts 44 = .ok (.iconst 1, 1) := by decide +kernel
theorem dX9_counts_45 : decode cX9_counts 45 = .ok (.goto 4, 3) := by decide +kernel
theorem dX9_counts_48 : decode cX9_counts 48 = .ok (.iconst 0, 1) := by decide +kernel
theorem dX9_counts_49 : decode cX9_counts 49 = .ok (.istore 5, 2) := by decide +kernel
theorem dX9_counts_51 : decode cX9_counts 51 = .ok (.aload_n 0, 1) := by decide +kernel
theorem dX9_counts_52 : decode cX9_counts 52 = .ok (.getfield 19, 3) := by decide +kernel
theorem dX9_counts_55 : decode cX9_counts 55 = .ok (.getfield 212, 3) := by decide +kernel
theorem dX9_counts_58 : decode cX9_counts 58 = .ok (.aload 4, 2) := by decide +kernel
theorem dX9_counts_60 : decode cX9_counts 60 = .ok (.getfield 246, 3) := by decide +kernel
theorem dX9_counts_63 : decode cX9_counts 63 = .ok (.invokevirtual 255, 3) := by decide +kernel
theorem dX9_counts_66 : decode cX9_counts 66 = .ok (.astore 4, 2) := by decide +kernel
theorem dX9_counts_68 : decode cX9_counts 68 = .ok (.iinc 6 1, 3) := by decide +kernel
theorem dX9_counts_71 : decode cX9_counts 71 = .ok (.goto (-52), 3) := by decide +kernel
theorem dX9_counts_74 : decode cX9_counts 74 = .ok (.iload 5, 2) := by decide +kernel
theorem dX9_counts_76 : decode cX9_counts 76 = .ok (.ireturn, 1) := by decide +kernel
theorem dX9_setHome_0 : decode cX9_setHome 0 = .ok (.aload_n 0, 1) := by decide +kernel
theorem dX9_setHome_1 : decode cX9_setHome 1 = .ok (.invokevirtual 136, 3) := by decide +kernel
theorem dX9_setHome_4 : decode cX9_setHome 4 = .ok (.astore_n 1, 1) := by decide +kernel
theorem dX9_setHome_5 : decode cX9_setHome 5 = .ok (.aload_n 0, 1) := by decide +kernel
theorem dX9_setHome_6 : decode cX9_setHome 6 = .ok (.invokevirtual 100, 3) := by decide +kernel
theorem dX9_setHome_9 : decode cX9_setHome 9 = .ok (.aload_n 0, 1) := by decide +kernel
theorem dX9_setHome_10 : decode cX9_setHome 10 = .ok (.getfield 19, 3) := by decide +kernel
theorem dX9_setHome_13 : decode cX9_setHome 13 = .ok (.getfield 258, 3) := by decide +kernel
theorem dX9_setHome_16 : decode cX9_setHome 16 = .ok (.invokevirtual 152, 3) := by decide +kernel
theorem dX9_setHome_19 : decode cX9_setHome 19 = .ok (.istore_n 2, 1) := by decide +kernel
theorem dX9_setHome_20 : decode cX9_setHome 20 = .ok (.aload_n 0, 1) := by decide +kernel
theorem dX9_setHome_21 : decode cX9_setHome 21 = .ok (.getfield 19, 3) := by decide +kernel
theorem dX9_setHome_24 : decode cX9_setHome 24 = .ok (.aload_n 1, 1) := by decide +kernel
theorem dX9_setHome_25 : decode cX9_setHome 25 = .ok (.putfield 258, 3) := by decide +kernel
theorem dX9_setHome_28 : decode cX9_setHome 28 = .ok (.iload_n 2, 1) := by decide +kernel
theorem dX9_setHome_29 : decode cX9_setHome 29 = .ok (.ireturn, 1) := by decide +kernel
theorem dX9_setKeys_0 : decode cX9_setKeys 0 = .ok (.iload_n 1, 1) := by decide +kernel
theorem dX9_setKeys_1 : decode cX9_setKeys 1 = .ok (.ifCond .lt 9, 3) := by decide +kernel
theorem dX9_setKeys_4 : decode cX9_setKeys 4 = .ok (.iload_n 1, 1) := by decide +kernel
theorem dX9_setKeys_5 : decode cX9_setKeys 5 = .ok (.bipush 32, 2) := by decide +kernel
theorem dX9_setKeys_7 : decode cX9_setKeys 7 = .ok (.if_icmp .lt 14, 3) := by decide +kernel
theorem dX9_setKeys_10 : decode cX9_setKeys 10 = .ok (.new 69, 3) := by decide +kernel
theorem dX9_setKeys_13 : decode cX9_setKeys 13 = .ok (.dup, 1) := by decide +kernel
theorem dX9_setKeys_14 : decode cX9_setKeys 14 = .ok (.ldc_w 262, 3) := by decide +kernel
theorem dX9_setKeys_17 : decode cX9_setKeys 17 = .ok (.invokespecial 73, 3) := by decide +kernel
theorem dX9_setKeys_20 : decode cX9_setKeys 20 = .ok (.athrow, 1) := by decide +kernel
theorem dX9_setKeys_21 : decode cX9_setKeys 21 = .ok (.aload_n 0, 1) := by decide +kernel
theorem dX9_setKeys_22 : decode cX9_setKeys 22 = .ok (.invokevirtual 100, 3) := by decide +kernel
theorem dX9_setKeys_25 : decode cX9_setKeys 25 = .ok (.aload_n 0, 1) := by decide +kernel
theorem dX9_setKeys_26 : decode cX9_setKeys 26 = .ok (.getfield 19, 3) := by decide +kernel
theorem dX9_setKeys_29 : decode cX9_setKeys 29 = .ok (.getfield 264, 3) := by decide +kernel
theorem dX9_setKeys_32 : decode cX9_setKeys 32 = .ok (.istore_n 2, 1) := by decide +kernel
theorem dX9_setKeys_33 : decode cX9_setKeys 33 = .ok (.aload_n 0, 1) := by decide +kernel
theorem dX9_setKeys_34 : decode cX9_setKeys 34 = .ok (.getfield 19, 3) := by decide +kernel
theorem dX9_setKeys_37 : decode cX9_setKeys 37 = .ok (.iload_n 1, 1) := by decide +kernel
theorem dX9_setKeys_38 : decode cX9_setKeys 38 = .ok (.putfield 264, 3) := by decide +kernel
theorem dX9_setKeys_41 : decode cX9_setKeys 41 = .ok (.iload_n 2, 1) := by decide +kernel
theorem dX9_setKeys_42 : decode cX9_setKeys 42 = .ok (.ireturn, 1) := by decide +kernel
theorem dX9_setPolicy_0 : decode cX9_setPolicy 0 = .ok (.iload_n 1, 1) := by decide +kernel
theorem dX9_setPolicy_1 : decode cX9_setPolicy 1 = .ok (.ifCond .lt 8, 3) := by decide +kernel
theorem dX9_setPolicy_4 : decode cX9_setPolicy 4 = .ok (.iload_n 1, 1) := by decide +kernel
theorem dX9_setPolicy_5 : decode cX9_setPolicy 5 = .ok (.iconst 2, 1) := by decide +kernel
theorem dX9_setPolicy_6 : decode cX9_setPolicy 6 = .ok (.if_icmp .le 14, 3) := by decide +kernel
theorem dX9_setPolicy_9 : decode cX9_setPolicy 9 = .ok (.new 69, 3) := by decide +kernel
theorem dX9_setPolicy_12 : decode cX9_setPolicy 12 = .ok (.dup, 1) := by decide +kernel
theorem dX9_setPolicy_13 : decode cX9_setPolicy 13 = .ok (.ldc_w 267, 3) := by decide +kernel
theorem dX9_setPolicy_16 : decode cX9_setPolicy 16 = .ok (.invokespecial 73, 3) := by decide +kernel
theorem dX9_setPolicy_19 : decode cX9_setPolicy 19 = .ok (.athrow, 1) := by decide +kernel
theorem dX9_setPolicy_20 : decode cX9_setPolicy 20 = .ok (.aload_n 0, 1) := by decide +kernel
theorem dX9_setPolicy_21 : decode cX9_setPolicy 21 = .ok (.invokevirtual 100, 3) := by decide +kernel
theorem dX9_setPolicy_24 : decode cX9_setPolicy 24 = .ok (.aload_n 0, 1) := by decide +kernel
theorem dX9_setPolicy_25 : decode cX9_setPolicy 25 = .ok (.getfield 19, 3) := by decide +kernel
theorem dX9_setPolicy_28 : decode cX9_setPolicy 28 = .ok (.getfield 269, 3) := by decide +kernel
theorem dX9_setPolicy_31 : decode cX9_setPolicy 31 = .ok (.istore_n 2, 1) := by decide +kernel
theorem dX9_setPolicy_32 : decode cX9_setPolicy 32 = .ok (.aload_n 0, 1) := by decide +kernel
theorem dX9_setPolicy_33 : decode cX9_setPolicy 33 = .ok (.getfield 19, 3) := by decide +kernel
theorem dX9_setPolicy_36 : decode cX9_setPolicy 36 = .ok (.iload_n 1, 1) := by decide +kernel
theorem dX9_setPolicy_37 : decode cX9_setPolicy 37 = .ok (.putfield 269, 3) := by decide +kernel
theorem dX9_setPolicy_40 : decode cX9_setPolicy 40 = .ok (.iload_n 2, 1) := by decide +kernel
theorem dX9_setPolicy_41 : decode cX9_setPolicy 41 = .ok (.ireturn, 1) := by decide +kernel
theorem dX9_exclude_0 : decode cX9_exclude 0 = .ok (.iload_n 1, 1) := by decide +kernel
theorem dX9_exclude_1 : decode cX9_exclude 1 = .ok (.invokestatic 89, 3) := by decide +kernel
theorem dX9_exclude_4 : decode cX9_exclude 4 = .ok (.ifCond .ne 14, 3) := by decide +kernel
theorem dX9_exclude_7 : decode cX9_exclude 7 = .ok (.new 272, 3) := by decide +kernel
theorem dX9_exclude_10 : decode cX9_exclude 10 = .ok (.dup, 1) := by decide +kernel
theorem dX9_exclude_11 : decode cX9_exclude 11 = .ok (.ldc_w 274, 3) := by decide +kernel
theorem dX9_exclude_14 : decode cX9_exclude 14 = .ok (.invokespecial 276, 3) := by decide +kernel
theorem dX9_exclude_17 : decode cX9_exclude 17 = .ok (.athrow, 1) := by decide +kernel
theorem dX9_exclude_18 : decode cX9_exclude 18 = .ok (.aload_n 0, 1) := by decide +kernel
theorem dX9_exclude_19 : decode cX9_exclude 19 = .ok (.invokevirtual 100, 3) := by decide +kernel
theorem dX9_exclude_22 : decode cX9_exclude 22 = .ok (.iconst 1, 1) := by decide +kernel
theorem dX9_exclude_23 : decode cX9_exclude 23 = .ok (.iload_n 1, 1) := by decide +kernel
theorem dX9_exclude_24 : decode cX9_exclude 24 = .ok (.ishl, 1) := by decide +kernel
theorem dX9_exclude_25 : decode cX9_exclude 25 = .ok (.istore_n 3, 1) := by decide +kernel
theorem dX9_exclude_26 : decode cX9_exclude 26 = .ok (.aload_n 0, 1) := by decide +kernel
theorem dX9_exclude_27 : decode cX9_exclude 27 = .ok (.getfield 19, 3) := by decide +kernel
theorem dX9_exclude_30 : decode cX9_exclude 30 = .ok (.getfield 277, 3) := by decide +kernel
theorem dX9_exclude_33 : decode cX9_exclude 33 = .ok (.iload_n 3, 1) := by decide +kernel
theorem dX9_exclude_34 : decode cX9_exclude 34 = .ok (.iand, 1) := by decide +kernel
theorem dX9_exclude_35 : decode cX9_exclude 35 = .ok (.ifCond .eq 7, 3) := by decide +kernel
theorem dX9_exclude_38 : decode cX9_exclude 38 = .ok (.iconst 1, 1) := by decide +kernel
theorem dX9_exclude_39 : decode cX9_exclude 39 = .ok (.goto 4, 3) := by decide +kernel
theorem dX9_exclude_42 : decode cX9_exclude 42 = .ok (.iconst 0, 1) := by decide +kernel
theorem dX9_exclude_43 : decode cX9_exclude 43 = .ok (.istore 4, 2) := by decide +kernel
theorem dX9_exclude_45 : decode cX9_exclude 45 = .ok (.aload_n 0, 1) := by decide +kernel
theorem dX9_exclude_46 : decode cX9_exclude 46 = .ok (.getfield 19, 3) := by decide +kernel
theorem dX9_exclude_49 : decode cX9_exclude 49 = .ok (.iload_n 2, 1) := by decide +kernel
theorem dX9_exclude_50 : decode cX9_exclude 50 = .ok (.ifCond .eq 15, 3) := by decide +kernel
theorem dX9_exclude_53 : decode cX9_exclude 53 = .ok (.aload_n 0, 1) := by decide +kernel
theorem dX9_exclude_54 : decode cX9_exclude 54 = .ok (.getfield 19, 3) := by decide +kernel
theorem dX9_exclude_57 : decode cX9_exclude 57 = .ok (.getfield 277, 3) := by decide +kernel
theorem dX9_exclude_60 : decode cX9_exclude 60 = .ok (.iload_n 3, 1) := by decide +kernel
theorem dX9_exclude_61 : decode cX9_exclude 61 = .ok (.ior, 1) := by decide +kernel
theorem dX9_exclude_62 : decode cX9_exclude 62 = .ok (.goto 14, 3) := by decide +kernel
theorem dX9_exclude_65 : decode cX9_exclude 65 = .ok (.aload_n 0, 1) := by decide +kernel
theorem dX9_exclude_66 : decode cX9_exclude 66 = .ok (.getfield 19, 3) := by decide +kernel
theorem dX9_exclude_69 : decode cX9_exclude 69 = .ok (.getfield 277, 3) := by decide +kernel
theorem dX9_exclude_72 : decode cX9_exclude 72 = .ok (.iload_n 3, 1) := by decide +kernel
theorem dX9_exclude_73 : decode cX9_exclude 73 = .ok (.iconst (-1), 1) := by decide +kernel
theorem dX9_exclude_74 : decode cX9_exclude 74 = .ok (.ixor, 1) := by decide +kernel
theorem dX9_exclude_75 : decode cX9_exclude 75 = .ok (.iand, 1) := by decide +kernel
theorem dX9_exclude_76 : decode cX9_exclude 76 = .ok (.putfield 277, 3) := by decide +kernel
theorem dX9_exclude_79 : decode cX9_exclude 79 = .ok (.iload 4, 2) := by decide +kernel
theorem dX9_exclude_81 : decode cX9_exclude 81 = .ok (.ireturn, 1) := by decide +kernel
theorem dX9_setLimit_0 : decode cX9_setLimit 0 = .ok (.iload_n 1, 1) := by decide +kernel
theorem dX9_setLimit_1 : decode cX9_setLimit 1 = .ok (.iconst 1, 1) := by decide +kernel
theorem dX9_setLimit_2 : decode cX9_setLimit 2 = .ok (.if_icmp .lt 10, 3) := by decide +kernel
theorem dX9_setLimit_5 : decode cX9_setLimit 5 = .ok (.iload_n 1, 1) := by decide +kernel
theorem dX9_setLimit_6 : decode cX9_setLimit 6 = .ok (.sipush 200, 3) := by decide +kernel
theorem dX9_setLimit_9 : decode cX9_setLimit 9 = .ok (.if_icmp .le 14, 3) := by decide +kernel
theorem dX9_setLimit_12 : decode cX9_setLimit 12 = .ok (.new 69, 3) := by decide +kernel
theorem dX9_setLimit_15 : decode cX9_setLimit 15 = .ok (.dup, 1) := by decide +kernel
theorem dX9_setLimit_16 : decode cX9_setLimit 16 = .ok (.ldc_w 280, 3) := by decide +kernel
theorem dX9_setLimit_19 : decode cX9_setLimit 19 = .ok (.invokespecial 73, 3) := by decide +kernel
theorem dX9_setLimit_22 : decode cX9_setLimit 22 = .ok (.athrow, 1) := by decide +kernel
theorem dX9_setLimit_23 : decode cX9_setLimit 23 = .ok (.aload_n 0, 1) := by decide +kernel
theorem dX9_setLimit_24 : decode cX9_setLimit 24 = .ok (.invokevirtual 100, 3) := by decide +kernel
theorem dX9_setLimit_27 : decode cX9_setLimit 27 = .ok (.aload_n 0, 1) := by decide +kernel
theorem dX9_setLimit_28 : decode cX9_setLimit 28 = .ok (.getfield 19, 3) := by decide +kernel
theorem dX9_setLimit_31 : decode cX9_setLimit 31 = .ok (.getfield 282, 3) := by decide +kernel
theorem dX9_setLimit_34 : decode cX9_setLimit 34 = .ok (.istore_n 2, 1) := by decide +kernel
theorem dX9_setLimit_35 : decode cX9_setLimit 35 = .ok (.aload_n 0, 1) := by decide +kernel
theorem dX9_setLimit_36 : decode cX9_setLimit 36 = .ok (.getfield 19, 3) := by decide +kernel
theorem dX9_setLimit_39 : decode cX9_setLimit 39 = .ok (.iload_n 1, 1) := by decide +kernel
theorem dX9_setLimit_40 : decode cX9_setLimit 40 = .ok (.putfield 282, 3) := by decide +kernel
theorem dX9_setLimit_43 : decode cX9_setLimit 43 = .ok (.iload_n 2, 1) := by decide +kernel
theorem dX9_setLimit_44 : decode cX9_setLimit 44 = .ok (.ireturn, 1) := by decide +kernel
theorem dX9_setting_0 : decode cX9_setting 0 = .ok (.iload_n 1, 1) := by decide +kernel
theorem dX9_setting_1 : decode cX9_setting 1 = .ok (.tableswitch 111 0 7 #[47, 55, 63, 71, 79, 87, 95, 100], 47) := by decide +kernel
theorem dX9_setting_48 : decode cX9_setting 48 = .ok (.aload_n 0, 1) := by decide +kernel
theorem dX9_setting_49 : decode cX9_setting 49 = .ok (.getfield 19, 3) := by decide +kernel
theorem dX9_setting_52 : decode cX9_setting 52 = .ok (.getfield 59, 3) := by decide +kernel
theorem dX9_setting_55 : decode cX9_setting 55 = .ok (.ireturn, 1) := by decide +kernel
theorem dX9_setting_56 : decode cX9_setting 56 = .ok (.aload_n 0, 1) := by decide +kernel
theorem dX9_setting_57 : decode cX9_setting 57 = .ok (.getfield 19, 3) := by decide +kernel
theorem dX9_setting_60 : decode cX9_setting 60 = .ok (.getfield 264, 3) := by decide +kernel
theorem dX9_setting_63 : decode cX9_setting 63 = .ok (.ireturn, 1) := by decide +kernel
theorem dX9_setting_64 : decode cX9_setting 64 = .ok (.aload_n 0, 1) := by decide +kernel
theorem dX9_setting_65 : decode cX9_setting 65 = .ok (.getfield 19, 3) := by decide +kernel
theorem dX9_setting_68 : decode cX9_setting 68 = .ok (.getfield 269, 3) := by decide +kernel
theorem dX9_setting_71 : decode cX9_setting 71 = .ok (.ireturn, 1) := by decide +kernel
theorem dX9_setting_72 : decode cX9_setting 72 = .ok (.aload_n 0, 1) := by decide +kernel
theorem dX9_setting_73 : decode cX9_setting 73 = .ok (.getfield 19, 3) := by decide +kernel
theorem dX9_setting_76 : decode cX9_setting 76 = .ok (.getfield 277, 3) := by decide +kernel
theorem dX9_setting_79 : decode cX9_setting 79 = .ok (.ireturn, 1) := by decide +kernel
theorem dX9_setting_80 : decode cX9_setting 80 = .ok (.aload_n 0, 1) := by decide +kernel
theorem dX9_setting_81 : decode cX9_setting 81 = .ok (.getfield 19, 3) := by decide +kernel
theorem dX9_setting_84 : decode cX9_setting 84 = .ok (.getfield 282, 3) := by decide +kernel
theorem dX9_setting_87 : decode cX9_setting 87 = .ok (.ireturn, 1) := by decide +kernel
theorem dX9_setting_88 : decode cX9_setting 88 = .ok (.aload_n 0, 1) := by decide +kernel
theorem dX9_setting_89 : decode cX9_setting 89 = .ok (.getfield 10, 3) := by decide +kernel
theorem dX9_setting_92 : decode cX9_setting 92 = .ok (.invokevirtual 76, 3) := by decide +kernel
theorem dX9_setting_95 : decode cX9_setting 95 = .ok (.ireturn, 1) := by decide +kernel
theorem dX9_setting_96 : decode cX9_setting 96 = .ok (.aload_n 0, 1) := by decide +kernel
theorem dX9_setting_97 : decode cX9_setting 97 = .ok (.getfield 48, 3) := by decide +kernel
theorem dX9_setting_100 : decode cX9_setting 100 = .ok (.ireturn, 1) := by decide +kernel
theorem dX9_setting_101 : decode cX9_setting 101 = .ok (.aload_n 0, 1) := by decide +kernel
theorem dX9_setting_102 : decode cX9_setting 102 = .ok (.getfield 19, 3) := by decide +kernel
theorem dX9_setting_105 : decode cX9_setting 105 = .ok (.getfield 258, 3) := by decide +kernel
theorem dX9_setting_108 : decode cX9_setting 108 = .ok (.invokevirtual 152, 3) := by decide +kernel
theorem dX9_setting_111 : decode cX9_setting 111 = .ok (.ireturn, 1) := by decide +kernel
theorem dX9_setting_112 : decode cX9_setting 112 = .ok (.new 69, 3) := by decide +kernel
theorem dX9_setting_115 : decode cX9_setting 115 = .ok (.dup, 1) := by decide +kernel
theorem dX9_setting_116 : decode cX9_setting 116 = .ok (.ldc_w 285, 3) := by decide +kernel
theorem dX9_setting_119 : decode cX9_setting 119 = .ok (.invokespecial 73, 3) := by decide +kernel
theorem dX9_setting_122 : decode cX9_setting 122 = .ok (.athrow, 1) := by decide +kernel
theorem dX9_run_0 : decode cX9_run 0 = .ok (.aload_n 0, 1) := by decide +kernel
theorem dX9_run_1 : decode cX9_run 1 = .ok (.getfield 19, 3) := by decide +kernel
theorem dX9_run_4 : decode cX9_run 4 = .ok (.getfield 59, 3) := by decide +kernel
theorem dX9_run_7 : decode cX9_run 7 = .ok (.ifCond .ne 14, 3) := by decide +kernel
theorem dX9_run_10 : decode cX9_run 10 = .ok (.new 80, 3) := by decide +kernel
theorem dX9_run_13 : decode cX9_run 13 = .ok (.dup, 1) := by decide +kernel
theorem dX9_run_14 : decode cX9_run 14 = .ok (.ldc_w 287, 3) := by decide +kernel
theorem dX9_run_17 : decode cX9_run 17 = .ok (.invokespecial 84, 3) := by decide +kernel
theorem dX9_run_20 : decode cX9_run 20 = .ok (.athrow, 1) := by decide +kernel
theorem dX9_run_21 : decode cX9_run 21 = .ok (.aload_n 0, 1) := by decide +kernel
theorem dX9_run_22 : decode cX9_run 22 = .ok (.getfield 33, 3) := by decide +kernel
theorem dX9_run_25 : decode cX9_run 25 = .ok (.aload_n 0, 1) := by decide +kernel
theorem dX9_run_26 : decode cX9_run 26 = .ok (.getfield 19, 3) := by decide +kernel
theorem dX9_run_29 : decode cX9_run 29 = .ok (.invokevirtual 289, 3) := by decide +kernel
theorem dX9_run_32 : decode cX9_run 32 = .ok (.aload_n 0, 1) := by decide +kernel
theorem dX9_run_33 : decode cX9_run 33 = .ok (.getfield 33, 3) := by decide +kernel
theorem dX9_run_36 : decode cX9_run 36 = .ok (.iconst 0, 1) := by decide +kernel
theorem dX9_run_37 : decode cX9_run 37 = .ok (.invokevirtual 293, 3) := by decide +kernel
theorem dX9_run_40 : decode cX9_run 40 = .ok (.ireturn, 1) := by decide +kernel
theorem dX9_reason_0 : decode cX9_reason 0 = .ok (.aload_n 0, 1) := by decide +kernel
theorem dX9_reason_1 : decode cX9_reason 1 = .ok (.iload_n 1, 1) := by decide +kernel
theorem dX9_reason_2 : decode cX9_reason 2 = .ok (.invokevirtual 296, 3) := by decide +kernel
theorem dX9_reason_5 : decode cX9_reason 5 = .ok (.getfield 300, 3) := by decide +kernel
theorem dX9_reason_8 : decode cX9_reason 8 = .ok (.ireturn, 1) := by decide +kernel
theorem dX9_reasons_0 : decode cX9_reasons 0 = .ok (.aload_n 0, 1) := by decide +kernel
theorem dX9_reasons_1 : decode cX9_reasons 1 = .ok (.invokevirtual 303, 3) := by decide +kernel
theorem dX9_reasons_4 : decode cX9_reasons 4 = .ok (.iload_n 1, 1) := by decide +kernel
theorem dX9_reasons_5 : decode cX9_reasons 5 = .ok (.ifCond .lt 8, 3) := by decide +kernel
theorem dX9_reasons_8 : decode cX9_reasons 8 = .ok (.iload_n 1, 1) := by decide +kernel
theorem dX9_reasons_9 : decode cX9_reasons 9 = .ok (.iconst 4, 1) := by decide +kernel
theorem dX9_reasons_10 : decode cX9_reasons 10 = .ok (.if_icmp .le 14, 3) := by decide +kernel
theorem dX9_reasons_13 : decode cX9_reasons 13 = .ok (.new 69, 3) := by decide +kernel
theorem dX9_reasons_16 : decode cX9_reasons 16 = .ok (.dup, 1) := by decide +kernel
theorem dX9_reasons_17 : decode cX9_reasons 17 = .ok (.ldc_w 306, 3) := by decide +kernel
theorem dX9_reasons_20 : decode cX9_reasons 20 = .ok (.invokespecial 73, 3) := by decide +kernel
theorem dX9_reasons_23 : decode cX9_reasons 23 = .ok (.athrow, 1) := by decide +kernel
theorem dX9_reasons_24 : decode cX9_reasons 24 = .ok (.aload_n 0, 1) := by decide +kernel
theorem dX9_reasons_25 : decode cX9_reasons 25 = .ok (.getfield 33, 3) := by decide +kernel
theorem dX9_reasons_28 : decode cX9_reasons 28 = .ok (.iload_n 1, 1) := by decide +kernel
theorem dX9_reasons_29 : decode cX9_reasons 29 = .ok (.invokevirtual 293, 3) := by decide +kernel
theorem dX9_reasons_32 : decode cX9_reasons 32 = .ok (.ireturn, 1) := by decide +kernel
theorem dX9_letter_0 : decode cX9_letter 0 = .ok (.aload_n 0, 1) := by decide +kernel
theorem dX9_letter_1 : decode cX9_letter 1 = .ok (.iload_n 1, 1) := by decide +kernel
theorem dX9_letter_2 : decode cX9_letter 2 = .ok (.invokevirtual 296, 3) := by decide +kernel
theorem dX9_letter_5 : decode cX9_letter 5 = .ok (.astore_n 3, 1) := by decide +kernel
theorem dX9_letter_6 : decode cX9_letter 6 = .ok (.aload_n 3, 1) := by decide +kernel
theorem dX9_letter_7 : decode cX9_letter 7 = .ok (.getfield 300, 3) := by decide +kernel
theorem dX9_letter_10 : decode cX9_letter 10 = .ok (.ifCond .eq 14, 3) := by decide +kernel
theorem dX9_letter_13 : decode cX9_letter 13 = .ok (.new 308, 3) := by decide +kernel
theorem dX9_letter_16 : decode cX9_letter 16 = .ok (.dup, 1) := by decide +kernel
theorem dX9_letter_17 : decode cX9_letter 17 = .ok (.ldc_w 310, 3) := by decide +kernel
theorem dX9_letter_20 : decode cX9_letter 20 = .ok (.invokespecial 312, 3) := by decide +kernel
theorem dX9_letter_23 : decode cX9_letter 23 = .ok (.athrow, 1) := by decide +kernel
theorem dX9_letter_24 : decode cX9_letter 24 = .ok (.iload_n 2, 1) := by decide +kernel
theorem dX9_letter_25 : decode cX9_letter 25 = .ok (.iconst (-1), 1) := by decide +kernel
theorem dX9_letter_26 : decode cX9_letter 26 = .ok (.if_icmp .lt 11, 3) := by decide +kernel
theorem dX9_letter_29 : decode cX9_letter 29 = .ok (.iload_n 2, 1) := by decide +kernel
theorem dX9_letter_30 : decode cX9_letter 30 = .ok (.aload_n 3, 1) := by decide +kernel
theorem dX9_letter_31 : decode cX9_letter 31 = .ok (.getfield 313, 3) := by decide +kernel
theorem dX9_letter_34 : decode cX9_letter 34 = .ok (.if_icmp .lt 13, 3) := by decide +kernel
theorem dX9_letter_37 : decode cX9_letter 37 = .ok (.new 169, 3) := by decide +kernel
theorem dX9_letter_40 : decode cX9_letter 40 = .ok (.dup, 1) := by decide +kernel
theorem dX9_letter_41 : decode cX9_letter 41 = .ok (.ldc 171, 2) := by decide +kernel
theorem dX9_letter_43 : decode cX9_letter 43 = .ok (.invokespecial 173, 3) := by decide +kernel
theorem dX9_letter_46 : decode cX9_letter 46 = .ok (.athrow, 1) := by decide +kernel
theorem dX9_letter_47 : decode cX9_letter 47 = .ok (.iload_n 2, 1) := by decide +kernel
theorem dX9_letter_48 : decode cX9_letter 48 = .ok (.iconst (-1), 1) := by decide +kernel
theorem dX9_letter_49 : decode cX9_letter 49 = .ok (.if_icmp .ne 10, 3) := by decide +kernel
theorem dX9_letter_52 : decode cX9_letter 52 = .ok (.aload_n 3, 1) := by decide +kernel
theorem dX9_letter_53 : decode cX9_letter 53 = .ok (.getfield 313, 3) := by decide +kernel
theorem dX9_letter_56 : decode cX9_letter 56 = .ok (.goto 9, 3) := by decide +kernel
theorem dX9_letter_59 : decode cX9_letter 59 = .ok (.aload_n 3, 1) := by decide +kernel
theorem dX9_letter_60 : decode cX9_letter 60 = .ok (.getfield 314, 3) := by decide +kernel
theorem dX9_letter_63 : decode cX9_letter 63 = .ok (.iload_n 2, 1) := by decide +kernel
theorem dX9_letter_64 : decode cX9_letter 64 = .ok (.caload, 1) := by decide +kernel
theorem dX9_letter_65 : decode cX9_letter 65 = .ok (.ireturn, 1) := by decide +kernel
theorem dX9_chain_0 : decode cX9_chain 0 = .ok (.aload_n 0, 1) := by decide +kernel
theorem dX9_chain_1 : decode cX9_chain 1 = .ok (.iload_n 1, 1) := by decide +kernel
theorem dX9_chain_2 : decode cX9_chain 2 = .ok (.invokevirtual 296, 3) := by decide +kernel
theorem dX9_chain_5 : decode cX9_chain 5 = .ok (.astore_n 3, 1) := by decide +kernel
theorem dX9_chain_6 : decode cX9_chain 6 = .ok (.aload_n 3, 1) := by decide +kernel
theorem dX9_chain_7 : decode cX9_chain 7 = .ok (.getfield 300, 3) := by decide +kernel
theorem dX9_chain_10 : decode cX9_chain 10 = .ok (.iconst 3, 1) := by decide +kernel
theorem dX9_chain_11 : decode cX9_chain 11 = .ok (.if_icmp .eq 22, 3) := by decide +kernel
theorem dX9_chain_14 : decode cX9_chain 14 = .ok (.aload_n 3, 1) := by decide +kernel
theorem dX9_chain_15 : decode cX9_chain 15 = .ok (.getfield 300, 3) := by decide +kernel
theorem dX9_chain_18 : decode cX9_chain 18 = .ok (.iconst 4, 1) := by decide +kernel
theorem dX9_chain_19 : decode cX9_chain 19 = .ok (.if_icmp .eq 14, 3) := by decide +kernel
theorem dX9_chain_22 : decode cX9_chain 22 = .ok (.new 308, 3) := by decide +kernel
theorem dX9_chain_25 : decode cX9_chain 25 = .ok (.dup, 1) := by decide +kernel
theorem dX9_chain_26 : decode cX9_chain 26 = .ok (.ldc_w 318, 3) := by decide +kernel
theorem dX9_chain_29 : decode cX9_chain 29 = .ok (.invokespecial 312, 3) := by decide +kernel
theorem dX9_chain_32 : decode cX9_chain 32 = .ok (.athrow, 1) := by decide +kernel
theorem dX9_chain_33 : decode cX9_chain 33 = .ok (.iload_n 2, 1) := by decide +kernel
theorem dX9_chain_34 : decode cX9_chain 34 = .ok (.ifCond .lt 11, 3) := by decide +kernel
theorem dX9_chain_37 : decode cX9_chain 37 = .ok (.iload_n 2, 1) := by decide +kernel
theorem dX9_chain_38 : decode cX9_chain 38 = .ok (.aload_n 3, 1) := by decide +kernel
theorem dX9_chain_39 : decode cX9_chain 39 = .ok (.getfield 320, 3) := by decide +kernel
theorem dX9_chain_42 : decode cX9_chain 42 = .ok (.if_icmp .lt 14, 3) := by decide +kernel
theorem dX9_chain_45 : decode cX9_chain 45 = .ok (.new 169, 3) := by decide +kernel
theorem dX9_chain_48 : decode cX9_chain 48 = .ok (.dup, 1) := by decide +kernel
theorem dX9_chain_49 : decode cX9_chain 49 = .ok (.ldc_w 323, 3) := by decide +kernel
theorem dX9_chain_52 : decode cX9_chain 52 = .ok (.invokespecial 173, 3) := by decide +kernel
theorem dX9_chain_55 : decode cX9_chain 55 = .ok (.athrow, 1) := by decide +kernel
theorem dX9_chain_56 : decode cX9_chain 56 = .ok (.aload_n 3, 1) := by decide +kernel
theorem dX9_chain_57 : decode cX9_chain 57 = .ok (.getfield 325, 3) := by decide +kernel
theorem dX9_chain_60 : decode cX9_chain 60 = .ok (.iload_n 2, 1) := by decide +kernel
theorem dX9_chain_61 : decode cX9_chain 61 = .ok (.iaload, 1) := by decide +kernel
theorem dX9_chain_62 : decode cX9_chain 62 = .ok (.ireturn, 1) := by decide +kernel
theorem dX9_kept_0 : decode cX9_kept 0 = .ok (.aload_n 0, 1) := by decide +kernel
theorem dX9_kept_1 : decode cX9_kept 1 = .ok (.iload_n 1, 1) := by decide +kernel
theorem dX9_kept_2 : decode cX9_kept 2 = .ok (.invokevirtual 112, 3) := by decide +kernel
theorem dX9_kept_5 : decode cX9_kept 5 = .ok (.astore_n 2, 1) := by decide +kernel
theorem dX9_kept_6 : decode cX9_kept 6 = .ok (.aload_n 0, 1) := by decide +kernel
theorem dX9_kept_7 : decode cX9_kept 7 = .ok (.getfield 19, 3) := by decide +kernel
theorem dX9_kept_10 : decode cX9_kept 10 = .ok (.aload_n 2, 1) := by decide +kernel
theorem dX9_kept_11 : decode cX9_kept 11 = .ok (.invokevirtual 328, 3) := by decide +kernel
theorem dX9_kept_14 : decode cX9_kept 14 = .ok (.ifCond .eq 14, 3) := by decide +kernel
theorem dX9_kept_17 : decode cX9_kept 17 = .ok (.new 308, 3) := by decide +kernel
theorem dX9_kept_20 : decode cX9_kept 20 = .ok (.dup, 1) := by decide +kernel
theorem dX9_kept_21 : decode cX9_kept 21 = .ok (.ldc_w 331, 3) := by decide +kernel
theorem dX9_kept_24 : decode cX9_kept 24 = .ok (.invokespecial 312, 3) := by decide +kernel
theorem dX9_kept_27 : decode cX9_kept 27 = .ok (.athrow, 1) := by decide +kernel
theorem dX9_kept_28 : decode cX9_kept 28 = .ok (.aload_n 0, 1) := by decide +kernel
theorem dX9_kept_29 : decode cX9_kept 29 = .ok (.getfield 19, 3) := by decide +kernel
theorem dX9_kept_32 : decode cX9_kept 32 = .ok (.iload_n 1, 1) := by decide +kernel
theorem dX9_kept_33 : decode cX9_kept 33 = .ok (.aload_n 0, 1) := by decide +kernel
theorem dX9_kept_34 : decode cX9_kept 34 = .ok (.getfield 19, 3) := by decide +kernel
theorem dX9_kept_37 : decode cX9_kept 37 = .ok (.getfield 269, 3) := by decide +kernel
theorem dX9_kept_40 : decode cX9_kept 40 = .ok (.iconst 0, 1) := by decide +kernel
theorem dX9_kept_41 : decode cX9_kept 41 = .ok (.invokevirtual 333, 3) := by decide +kernel
theorem dX9_kept_44 : decode cX9_kept 44 = .ok (.ireturn, 1) := by decide +kernel
theorem dX9_preview_0 : decode cX9_preview 0 = .ok (.aload_n 0, 1) := by decide +kernel
theorem dX9_preview_1 : decode cX9_preview 1 = .ok (.getfield 40, 3) := by decide +kernel
theorem dX9_preview_4 : decode cX9_preview 4 = .ok (.aload_n 0, 1) := by decide +kernel
theorem dX9_preview_5 : decode cX9_preview 5 = .ok (.getfield 19, 3) := by decide +kernel
theorem dX9_preview_8 : decode cX9_preview 8 = .ok (.aload_n 0, 1) := by decide +kernel
theorem dX9_preview_9 : decode cX9_preview 9 = .ok (.iload_n 1, 1) := by decide +kernel
theorem dX9_preview_10 : decode cX9_preview 10 = .ok (.invokevirtual 112, 3) := by decide +kernel
theorem dX9_preview_13 : decode cX9_preview 13 = .ok (.invokevirtual 337, 3) := by decide +kernel
theorem dX9_preview_16 : decode cX9_preview 16 = .ok (.aload_n 0, 1) := by decide +kernel
theorem dX9_preview_17 : decode cX9_preview 17 = .ok (.getfield 40, 3) := by decide +kernel
theorem dX9_preview_20 : decode cX9_preview 20 = .ok (.getfield 300, 3) := by decide +kernel
theorem dX9_preview_23 : decode cX9_preview 23 = .ok (.ifCond .ne 13, 3) := by decide +kernel
theorem dX9_preview_26 : decode cX9_preview 26 = .ok (.aload_n 0, 1) := by decide +kernel
theorem dX9_preview_27 : decode cX9_preview 27 = .ok (.getfield 40, 3) := by decide +kernel
theorem dX9_preview_30 : decode cX9_preview 30 = .ok (.getfield 313, 3) := by decide +kernel
theorem dX9_preview_33 : decode cX9_preview 33 = .ok (.goto 11, 3) := by decide +kernel
theorem dX9_preview_36 : decode cX9_preview 36 = .ok (.aload_n 0, 1) := by decide +kernel
theorem dX9_preview_37 : decode cX9_preview 37 = .ok (.getfield 40, 3) := by decide +kernel
theorem dX9_preview_40 : decode cX9_preview 40 = .ok (.getfield 300, 3) := by decide +kernel
theorem dX9_preview_43 : decode cX9_preview 43 = .ok (.ineg, 1) := by decide +kernel
theorem dX9_preview_44 : decode cX9_preview 44 = .ok (.ireturn, 1) := by decide +kernel
theorem dX9_meanLength_0 : decode cX9_meanLength 0 = .ok (.aload_n 0, 1) := by decide +kernel
theorem dX9_meanLength_1 : decode cX9_meanLength 1 = .ok (.invokevirtual 303, 3) := by decide +kernel
theorem dX9_meanLength_4 : decode cX9_meanLength 4 = .ok (.aload_n 0, 1) := by decide +kernel
theorem dX9_meanLength_5 : decode cX9_meanLength 5 = .ok (.getfield 33, 3) := by decide +kernel
theorem dX9_meanLength_8 : decode cX9_meanLength 8 = .ok (.iconst 0, 1) := by decide +kernel
theorem dX9_meanLength_9 : decode cX9_meanLength 9 = .ok (.invokevirtual 293, 3) := by decide +kernel
theorem dX9_meanLength_12 : decode cX9_meanLength 12 = .ok (.istore_n 1, 1) := by decide +kernel
theorem dX9_meanLength_13 : decode cX9_meanLength 13 = .ok (.iload_n 1, 1) := by decide +kernel
theorem dX9_meanLength_14 : decode cX9_meanLength 14 = .ok (.ifCond .ne 14, 3) := by decide +kernel
theorem dX9_meanLength_17 : decode cX9_meanLength 17 = .ok (.new 341, 3) := by decide +kernel
theorem dX9_meanLength_20 : decode cX9_meanLength 20 = .ok (.dup, 1) := by decide +kernel
theorem dX9_meanLength_21 : decode cX9_meanLength 21 = .ok (.ldc_w 343, 3) := by decide +kernel
theorem dX9_meanLength_24 : decode cX9_meanLength 24 = .ok (.invokespecial 345, 3) := by decide +kernel
theorem dX9_meanLength_27 : decode cX9_meanLength 27 = .ok (.athrow, 1) := by decide +kernel
theorem dX9_meanLength_28 : decode cX9_meanLength 28 = .ok (.aload_n 0, 1) := by decide +kernel
theorem dX9_meanLength_29 : decode cX9_meanLength 29 = .ok (.getfield 33, 3) := by decide +kernel
theorem dX9_meanLength_32 : decode cX9_meanLength 32 = .ok (.invokevirtual 346, 3) := by decide +kernel
theorem dX9_meanLength_35 : decode cX9_meanLength 35 = .ok (.i2d, 1) := by decide +kernel
theorem dX9_meanLength_36 : decode cX9_meanLength 36 = .ok (.iload_n 1, 1) := by decide +kernel
theorem dX9_meanLength_37 : decode cX9_meanLength 37 = .ok (.i2d, 1) := by decide +kernel
theorem dX9_meanLength_38 : decode cX9_meanLength 38 = .ok (.ddiv, 1) := by decide +kernel
theorem dX9_meanLength_39 : decode cX9_meanLength 39 = .ok (.dreturn, 1) := by decide +kernel
theorem dX9_share_0 : decode cX9_share 0 = .ok (.aload_n 0, 1) := by decide +kernel
theorem dX9_share_1 : decode cX9_share 1 = .ok (.invokevirtual 303, 3) := by decide +kernel
theorem dX9_share_4 : decode cX9_share 4 = .ok (.aload_n 0, 1) := by decide +kernel
theorem dX9_share_5 : decode cX9_share 5 = .ok (.getfield 33, 3) := by decide +kernel
theorem dX9_share_8 : decode cX9_share 8 = .ok (.iconst 0, 1) := by decide +kernel
theorem dX9_share_9 : decode cX9_share 9 = .ok (.invokevirtual 293, 3) := by decide +kernel
theorem dX9_share_12 : decode cX9_share 12 = .ok (.i2f, 1) := by decide +kernel
theorem dX9_share_13 : decode cX9_share 13 = .ok (.aload_n 0, 1) := by decide +kernel
theorem dX9_share_14 : decode cX9_share 14 = .ok (.getfield 33, 3) := by decide +kernel
theorem dX9_share_17 : decode cX9_share 17 = .ok (.getfield 349, 3) := by decide +kernel
theorem dX9_share_20 : decode cX9_share 20 = .ok (.i2f, 1) := by decide +kernel
theorem dX9_share_21 : decode cX9_share 21 = .ok (.fdiv, 1) := by decide +kernel
theorem dX9_share_22 : decode cX9_share 22 = .ok (.freturn, 1) := by decide +kernel
theorem dX9_isOrderFree_0 : decode cX9_isOrderFree 0 = .ok (.aload_n 0, 1) := by decide +kernel
theorem dX9_isOrderFree_1 : decode cX9_isOrderFree 1 = .ok (.getfield 19, 3) := by decide +kernel
theorem dX9_isOrderFree_4 : decode cX9_isOrderFree 4 = .ok (.getfield 269, 3) := by decide +kernel
theorem dX9_isOrderFree_7 : decode cX9_isOrderFree 7 = .ok (.istore_n 1, 1) := by decide +kernel
theorem dX9_isOrderFree_8 : decode cX9_isOrderFree 8 = .ok (.aload_n 0, 1) := by decide +kernel
theorem dX9_isOrderFree_9 : decode cX9_isOrderFree 9 = .ok (.getfield 19, 3) := by decide +kernel
theorem dX9_isOrderFree_12 : decode cX9_isOrderFree 12 = .ok (.getfield 269, 3) := by decide +kernel
theorem dX9_isOrderFree_15 : decode cX9_isOrderFree 15 = .ok (.ifCond .ne 8, 3) := by decide +kernel
theorem dX9_isOrderFree_18 : decode cX9_isOrderFree 18 = .ok (.iconst 1, 1) := by decide +kernel
theorem dX9_isOrderFree_19 : decode cX9_isOrderFree 19 = .ok (.istore_n 1, 1) := by decide +kernel
theorem dX9_isOrderFree_20 : decode cX9_isOrderFree 20 = .ok (.goto 16, 3) := by decide +kernel
theorem dX9_isOrderFree_23 : decode cX9_isOrderFree 23 = .ok (.aload_n 0, 1) := by decide +kernel
theorem dX9_isOrderFree_24 : decode cX9_isOrderFree 24 = .ok (.getfield 19, 3) := by decide +kernel
theorem dX9_isOrderFree_27 : decode cX9_isOrderFree 27 = .ok (.getfield 269, 3) := by decide +kernel
theorem dX9_isOrderFree_30 : decode cX9_isOrderFree 30 = .ok (.iconst 1, 1) := by decide +kernel
theorem dX9_isOrderFree_31 : decode cX9_isOrderFree 31 = .ok (.if_icmp .ne 5, 3) := by decide +kernel
theorem dX9_isOrderFree_34 : decode cX9_isOrderFree 34 = .ok (.iconst 0, 1) := by decide +kernel
theorem dX9_isOrderFree_35 : decode cX9_isOrderFree 35 = .ok (.istore_n 1, 1) := by decide +kernel
theorem dX9_isOrderFree_36 : decode cX9_isOrderFree 36 = .ok (.iconst 0, 1) := by decide +kernel
theorem dX9_isOrderFree_37 : decode cX9_isOrderFree 37 = .ok (.istore_n 2, 1) := by decide +kernel
theorem dX9_isOrderFree_38 : decode cX9_isOrderFree 38 = .ok (.iload_n 2, 1) := by decide +kernel
theorem dX9_isOrderFree_39 : decode cX9_isOrderFree 39 = .ok (.aload_n 0, 1) := by decide +kernel
theorem dX9_isOrderFree_40 : decode cX9_isOrderFree 40 = .ok (.getfield 19, 3) := by decide +kernel
theorem dX9_isOrderFree_43 : decode cX9_isOrderFree 43 = .ok (.getfield 59, 3) := by decide +kernel
theorem dX9_isOrderFree_46 : decode cX9_isOrderFree 46 = .ok (.if_icmp .ge 64, 3) := by decide +kernel
theorem dX9_isOrderFree_49 : decode cX9_isOrderFree 49 = .ok (.aload_n 0, 1) := by decide +kernel
theorem dX9_isOrderFree_50 : decode cX9_isOrderFree 50 = .ok (.getfield 19, 3) := by decide +kernel
theorem dX9_isOrderFree_53 : decode cX9_isOrderFree 53 = .ok (.iload_n 2, 1) := by decide +kernel
theorem dX9_isOrderFree_54 : decode cX9_isOrderFree 54 = .ok (.aload_n 0, 1) := by decide +kernel
theorem dX9_isOrderFree_55 : decode cX9_isOrderFree 55 = .ok (.getfield 19, 3) := by decide +kernel
theorem dX9_isOrderFree_58 : decode cX9_isOrderFree 58 = .ok (.getfield 269, 3) := by decide +kernel
theorem dX9_isOrderFree_61 : decode cX9_isOrderFree 61 = .ok (.iconst 0, 1) := by decide +kernel
theorem dX9_isOrderFree_62 : decode cX9_isOrderFree 62 = .ok (.invokevirtual 333, 3) := by decide +kernel
theorem dX9_isOrderFree_65 : decode cX9_isOrderFree 65 = .ok (.iload_n 2, 1) := by decide +kernel
theorem dX9_isOrderFree_66 : decode cX9_isOrderFree 66 = .ok (.if_icmp .ne 7, 3) := by decide +kernel
theorem dX9_isOrderFree_69 : decode cX9_isOrderFree 69 = .ok (.iconst 1, 1) := by decide +kernel
theorem dX9_isOrderFree_70 : decode cX9_isOrderFree 70 = .ok (.goto 4, 3) := by decide +kernel
theorem dX9_isOrderFree_73 : decode cX9_isOrderFree 73 = .ok (.iconst 0, 1) := by decide +kernel
theorem dX9_isOrderFree_74 : decode cX9_isOrderFree 74 = .ok (.istore_n 3, 1) := by decide +kernel
theorem dX9_isOrderFree_75 : decode cX9_isOrderFree 75 = .ok (.aload_n 0, 1) := by decide +kernel
theorem dX9_isOrderFree_76 : decode cX9_isOrderFree 76 = .ok (.getfield 19, 3) := by decide +kernel
theorem dX9_isOrderFree_79 : decode cX9_isOrderFree 79 = .ok (.iload_n 2, 1) := by decide +kernel
theorem dX9_isOrderFree_80 : decode cX9_isOrderFree 80 = .ok (.iload_n 1, 1) := by decide +kernel
theorem dX9_isOrderFree_81 : decode cX9_isOrderFree 81 = .ok (.iconst 1, 1) := by decide +kernel
theorem dX9_isOrderFree_82 : decode cX9_isOrderFree 82 = .ok (.invokevirtual 333, 3) := by decide +kernel
theorem dX9_isOrderFree_85 : decode cX9_isOrderFree 85 = .ok (.iload_n 2, 1) := by decide +kernel
theorem dX9_isOrderFree_86 : decode cX9_isOrderFree 86 = .ok (.if_icmp .ne 7, 3) := by decide +kernel
theorem dX9_isOrderFree_89 : decode cX9_isOrderFree 89 = .ok (.iconst 1, 1) := by decide +kernel
theorem dX9_isOrderFree_90 : decode cX9_isOrderFree 90 = .ok (.goto 4, 3) := by decide +kernel
theorem dX9_isOrderFree_93 : decode cX9_isOrderFree 93 = .ok (.iconst 0, 1) := by decide +kernel
theorem dX9_isOrderFree_94 : decode cX9_isOrderFree 94 = .ok (.istore 4, 2) := by decide +kernel
theorem dX9_isOrderFree_96 : decode cX9_isOrderFree 96 = .ok (.iload_n 3, 1) := by decide +kernel
theorem dX9_isOrderFree_97 : decode cX9_isOrderFree 97 = .ok (.iload 4, 2) := by decide +kernel
theorem dX9_isOrderFree_99 : decode cX9_isOrderFree 99 = .ok (.if_icmp .eq 5, 3) := by decide +kernel
theorem dX9_isOrderFree_102 : decode cX9_isOrderFree 102 = .ok (.iconst 0, 1) := by decide +kernel
theorem dX9_isOrderFree_103 : decode cX9_isOrderFree 103 = .ok (.ireturn, 1) := by decide +kernel
theorem dX9_isOrderFree_104 : decode cX9_isOrderFree 104 = .ok (.iinc 2 1, 3) := by decide +kernel
theorem dX9_isOrderFree_107 : decode cX9_isOrderFree 107 = .ok (.goto (-69), 3) := by decide +kernel
theorem dX9_isOrderFree_110 : decode cX9_isOrderFree 110 = .ok (.iconst 1, 1) := by decide +kernel
theorem dX9_isOrderFree_111 : decode cX9_isOrderFree 111 = .ok (.ireturn, 1) := by decide +kernel
theorem dX9_undo_0 : decode cX9_undo 0 = .ok (.aload_n 0, 1) := by decide +kernel
theorem dX9_undo_1 : decode cX9_undo 1 = .ok (.getfield 48, 3) := by decide +kernel
theorem dX9_undo_4 : decode cX9_undo 4 = .ok (.ifCond .le 15, 3) := by decide +kernel
theorem dX9_undo_7 : decode cX9_undo 7 = .ok (.aload_n 0, 1) := by decide +kernel
theorem dX9_undo_8 : decode cX9_undo 8 = .ok (.getfield 48, 3) := by decide +kernel
theorem dX9_undo_11 : decode cX9_undo 11 = .ok (.aload_n 0, 1) := by decide +kernel
theorem dX9_undo_12 : decode cX9_undo 12 = .ok (.getfield 26, 3) := by decide +kernel
theorem dX9_undo_15 : decode cX9_undo 15 = .ok (.arraylength, 1) := by decide +kernel
theorem dX9_undo_16 : decode cX9_undo 16 = .ok (.if_icmp .le 14, 3) := by decide +kernel
theorem dX9_undo_19 : decode cX9_undo 19 = .ok (.new 80, 3) := by decide +kernel
theorem dX9_undo_22 : decode cX9_undo 22 = .ok (.dup, 1) := by decide +kernel
theorem dX9_undo_23 : decode cX9_undo 23 = .ok (.ldc_w 350, 3) := by decide +kernel
theorem dX9_undo_26 : decode cX9_undo 26 = .ok (.invokespecial 84, 3) := by decide +kernel
theorem dX9_undo_29 : decode cX9_undo 29 = .ok (.athrow, 1) := by decide +kernel
theorem dX9_undo_30 : decode cX9_undo 30 = .ok (.aload_n 0, 1) := by decide +kernel
theorem dX9_undo_31 : decode cX9_undo 31 = .ok (.dup, 1) := by decide +kernel
theorem dX9_undo_32 : decode cX9_undo 32 = .ok (.getfield 48, 3) := by decide +kernel
theorem dX9_undo_35 : decode cX9_undo 35 = .ok (.iconst 1, 1) := by decide +kernel
theorem dX9_undo_36 : decode cX9_undo 36 = .ok (.isub, 1) := by decide +kernel
theorem dX9_undo_37 : decode cX9_undo 37 = .ok (.putfield 48, 3) := by decide +kernel
theorem dX9_undo_40 : decode cX9_undo 40 = .ok (.aload_n 0, 1) := by decide +kernel
theorem dX9_undo_41 : decode cX9_undo 41 = .ok (.getfield 19, 3) := by decide +kernel
theorem dX9_undo_44 : decode cX9_undo 44 = .ok (.aload_n 0, 1) := by decide +kernel
theorem dX9_undo_45 : decode cX9_undo 45 = .ok (.getfield 26, 3) := by decide +kernel
theorem dX9_undo_48 : decode cX9_undo 48 = .ok (.aload_n 0, 1) := by decide +kernel
theorem dX9_undo_49 : decode cX9_undo 49 = .ok (.getfield 48, 3) := by decide +kernel
theorem dX9_undo_52 : decode cX9_undo 52 = .ok (.aaload, 1) := by decide +kernel
theorem dX9_undo_53 : decode cX9_undo 53 = .ok (.invokevirtual 352, 3) := by decide +kernel
theorem dX9_undo_56 : decode cX9_undo 56 = .ok (.aload_n 0, 1) := by decide +kernel
theorem dX9_undo_57 : decode cX9_undo 57 = .ok (.getfield 48, 3) := by decide +kernel
theorem dX9_undo_60 : decode cX9_undo 60 = .ok (.ireturn, 1) := by decide +kernel
theorem dX9_snapshot_0 : decode cX9_snapshot 0 = .ok (.aload_n 0, 1) := by decide +kernel
theorem dX9_snapshot_1 : decode cX9_snapshot 1 = .ok (.getfield 23, 3) := by decide +kernel
theorem dX9_snapshot_4 : decode cX9_snapshot 4 = .ok (.aload_n 0, 1) := by decide +kernel
theorem dX9_snapshot_5 : decode cX9_snapshot 5 = .ok (.getfield 19, 3) := by decide +kernel
theorem dX9_snapshot_8 : decode cX9_snapshot 8 = .ok (.invokevirtual 352, 3) := by decide +kernel
theorem dX9_snapshot_11 : decode cX9_snapshot 11 = .ok (.aload_n 0, 1) := by decide +kernel
theorem dX9_snapshot_12 : decode cX9_snapshot 12 = .ok (.iconst 1, 1) := by decide +kernel
theorem dX9_snapshot_13 : decode cX9_snapshot 13 = .ok (.putfield 55, 3) := by decide +kernel
theorem dX9_snapshot_16 : decode cX9_snapshot 16 = .ok (.aload_n 0, 1) := by decide +kernel
theorem dX9_snapshot_17 : decode cX9_snapshot 17 = .ok (.getfield 23, 3) := by decide +kernel
theorem dX9_snapshot_20 : decode cX9_snapshot 20 = .ok (.getfield 59, 3) := by decide +kernel
theorem dX9_snapshot_23 : decode cX9_snapshot 23 = .ok (.ireturn, 1) := by decide +kernel
theorem dX9_restore_0 : decode cX9_restore 0 = .ok (.aload_n 0, 1) := by decide +kernel
theorem dX9_restore_1 : decode cX9_restore 1 = .ok (.getfield 55, 3) := by decide +kernel
theorem dX9_restore_4 : decode cX9_restore 4 = .ok (.ifCond .ne 14, 3) := by decide +kernel
theorem dX9_restore_7 : decode cX9_restore 7 = .ok (.new 80, 3) := by decide +kernel
theorem dX9_restore_10 : decode cX9_restore 10 = .ok (.dup, 1) := by decide +kernel
theorem dX9_restore_11 : decode cX9_restore 11 = .ok (.ldc_w 355, 3) := by decide +kernel
theorem dX9_restore_14 : decode cX9_restore 14 = .ok (.invokespecial 84, 3) := by decide +kernel
theorem dX9_restore_17 : decode cX9_restore 17 = .ok (.athrow, 1) := by decide +kernel
theorem dX9_restore_18 : decode cX9_restore 18 = .ok (.aload_n 0, 1) := by decide +kernel
theorem dX9_restore_19 : decode cX9_restore 19 = .ok (.getfield 19, 3) := by decide +kernel
theorem dX9_restore_22 : decode cX9_restore 22 = .ok (.aload_n 0, 1) := by decide +kernel
theorem dX9_restore_23 : decode cX9_restore 23 = .ok (.getfield 23, 3) := by decide +kernel
theorem dX9_restore_26 : decode cX9_restore 26 = .ok (.invokevirtual 352, 3) := by decide +kernel
theorem dX9_restore_29 : decode cX9_restore 29 = .ok (.aload_n 0, 1) := by decide +kernel
theorem dX9_restore_30 : decode cX9_restore 30 = .ok (.iconst 0, 1) := by decide +kernel
theorem dX9_restore_31 : decode cX9_restore 31 = .ok (.putfield 48, 3) := by decide +kernel
theorem dX9_restore_34 : decode cX9_restore 34 = .ok (.aload_n 0, 1) := by decide +kernel
theorem dX9_restore_35 : decode cX9_restore 35 = .ok (.getfield 19, 3) := by decide +kernel
theorem dX9_restore_38 : decode cX9_restore 38 = .ok (.getfield 59, 3) := by decide +kernel
theorem dX9_restore_41 : decode cX9_restore 41 = .ok (.ireturn, 1) := by decide +kernel
theorem dX9_byteAt_0 : decode cX9_byteAt 0 = .ok (.iload_n 0, 1) := by decide +kernel
theorem dX9_byteAt_1 : decode cX9_byteAt 1 = .ok (.iload_n 1, 1) := by decide +kernel
theorem dX9_byteAt_2 : decode cX9_byteAt 2 = .ok (.iushr, 1) := by decide +kernel
theorem dX9_byteAt_3 : decode cX9_byteAt 3 = .ok (.sipush 255, 3) := by decide +kernel
theorem dX9_byteAt_6 : decode cX9_byteAt 6 = .ok (.iand, 1) := by decide +kernel
theorem dX9_byteAt_7 : decode cX9_byteAt 7 = .ok (.ireturn, 1) := by decide +kernel
theorem dX9_isGroup_0 : decode cX9_isGroup 0 = .ok (.iload_n 0, 1) := by decide +kernel
theorem dX9_isGroup_1 : decode cX9_isGroup 1 = .ok (.ifCond .lt 13, 3) := by decide +kernel
theorem dX9_isGroup_4 : decode cX9_isGroup 4 = .ok (.iload_n 0, 1) := by decide +kernel
theorem dX9_isGroup_5 : decode cX9_isGroup 5 = .ok (.bipush 10, 2) := by decide +kernel
theorem dX9_isGroup_7 : decode cX9_isGroup 7 = .ok (.if_icmp .ge 7, 3) := by decide +kernel
theorem dX9_isGroup_10 : decode cX9_isGroup 10 = .ok (.iconst 1, 1) := by decide +kernel
theorem dX9_isGroup_11 : decode cX9_isGroup 11 = .ok (.goto 4, 3) := by decide +kernel
theorem dX9_isGroup_14 : decode cX9_isGroup 14 = .ok (.iconst 0, 1) := by decide +kernel
theorem dX9_isGroup_15 : decode cX9_isGroup 15 = .ok (.ireturn, 1) := by decide +kernel
theorem dX9_isCountInRange_0 : decode cX9_isCountInRange 0 = .ok (.iload_n 0, 1) := by decide +kernel
theorem dX9_isCountInRange_1 : decode cX9_isCountInRange 1 = .ok (.ifCond .lt 13, 3) := by decide +kernel
theorem dX9_isCountInRange_4 : decode cX9_isCountInRange 4 = .ok (.iload_n 0, 1) := by decide +kernel
theorem dX9_isCountInRange_5 : decode cX9_isCountInRange 5 = .ok (.bipush 99, 2) := by decide +kernel
theorem dX9_isCountInRange_7 : decode cX9_isCountInRange 7 = .ok (.if_icmp .gt 7, 3) := by decide +kernel
theorem dX9_isCountInRange_10 : decode cX9_isCountInRange 10 = .ok (.iconst 1, 1) := by decide +kernel
theorem dX9_isCountInRange_11 : decode cX9_isCountInRange 11 = .ok (.goto 4, 3) := by decide +kernel
theorem dX9_isCountInRange_14 : decode cX9_isCountInRange 14 = .ok (.iconst 0, 1) := by decide +kernel
theorem dX9_isCountInRange_15 : decode cX9_isCountInRange 15 = .ok (.ireturn, 1) := by decide +kernel
theorem dX9_checkField_0 : decode cX9_checkField 0 = .ok (.iload_n 0, 1) := by decide +kernel
theorem dX9_checkField_1 : decode cX9_checkField 1 = .ok (.ifCond .lt 8, 3) := by decide +kernel
theorem dX9_checkField_4 : decode cX9_checkField 4 = .ok (.iload_n 0, 1) := by decide +kernel
theorem dX9_checkField_5 : decode cX9_checkField 5 = .ok (.iconst 5, 1) := by decide +kernel
theorem dX9_checkField_6 : decode cX9_checkField 6 = .ok (.if_icmp .lt 14, 3) := by decide +kernel
theorem dX9_checkField_9 : decode cX9_checkField 9 = .ok (.new 272, 3) := by decide +kernel
theorem dX9_checkField_12 : decode cX9_checkField 12 = .ok (.dup, 1) := by decide +kernel
theorem dX9_checkField_13 : decode cX9_checkField 13 = .ok (.ldc_w 357, 3) := by decide +kernel
theorem dX9_checkField_16 : decode cX9_checkField 16 = .ok (.invokespecial 276, 3) := by decide +kernel
theorem dX9_checkField_19 : decode cX9_checkField 19 = .ok (.athrow, 1) := by decide +kernel
theorem dX9_checkField_20 : decode cX9_checkField 20 = .ok (.return_, 1) := by decide +kernel
theorem dX9_existing_0 : decode cX9_existing 0 = .ok (.aload_n 0, 1) := by decide +kernel
theorem dX9_existing_1 : decode cX9_existing 1 = .ok (.getfield 19, 3) := by decide +kernel
theorem dX9_existing_4 : decode cX9_existing 4 = .ok (.iload_n 1, 1) := by decide +kernel
theorem dX9_existing_5 : decode cX9_existing 5 = .ok (.invokevirtual 359, 3) := by decide +kernel
theorem dX9_existing_8 : decode cX9_existing 8 = .ok (.astore_n 2, 1) := by decide +kernel
theorem dX9_existing_9 : decode cX9_existing 9 = .ok (.aload_n 2, 1) := by decide +kernel
theorem dX9_existing_10 : decode cX9_existing 10 = .ok (.ifnonnull 14, 3) := by decide +kernel
theorem dX9_existing_13 : decode cX9_existing 13 = .ok (.new 272, 3) := by decide +kernel
theorem dX9_existing_16 : decode cX9_existing 16 = .ok (.dup, 1) := by decide +kernel
theorem dX9_existing_17 : decode cX9_existing 17 = .ok (.ldc_w 362, 3) := by decide +kernel
theorem dX9_existing_20 : decode cX9_existing 20 = .ok (.invokespecial 276, 3) := by decide +kernel
theorem dX9_existing_23 : decode cX9_existing 23 = .ok (.athrow, 1) := by decide +kernel
theorem dX9_existing_24 : decode cX9_existing 24 = .ok (.aload_n 2, 1) := by decide +kernel
theorem dX9_existing_25 : decode cX9_existing 25 = .ok (.areturn, 1) := by decide +kernel
theorem dX9_existingPiece_0 : decode cX9_existingPiece 0 = .ok (.aload_n 0, 1) := by decide +kernel
theorem dX9_existingPiece_1 : decode cX9_existingPiece 1 = .ok (.getfield 19, 3) := by decide +kernel
theorem dX9_existingPiece_4 : decode cX9_existingPiece 4 = .ok (.getfield 212, 3) := by decide +kernel
theorem dX9_existingPiece_7 : decode cX9_existingPiece 7 = .ok (.iload_n 1, 1) := by decide +kernel
theorem dX9_existingPiece_8 : decode cX9_existingPiece 8 = .ok (.invokevirtual 255, 3) := by decide +kernel
theorem dX9_existingPiece_11 : decode cX9_existingPiece 11 = .ok (.astore_n 2, 1) := by decide +kernel
theorem dX9_existingPiece_12 : decode cX9_existingPiece 12 = .ok (.aload_n 2, 1) := by decide +kernel
theorem dX9_existingPiece_13 : decode cX9_existingPiece 13 = .ok (.ifnonnull 14, 3) := by decide +kernel
theorem dX9_existingPiece_16 : decode cX9_existingPiece 16 = .ok (.new 169, 3) := by decide +kernel
theorem dX9_existingPiece_19 : decode cX9_existingPiece 19 = .ok (.dup, 1) := by decide +kernel
theorem dX9_existingPiece_20 : decode cX9_existingPiece 20 = .ok (.ldc_w 364, 3) := by decide +kernel
theorem dX9_existingPiece_23 : decode cX9_existingPiece 23 = .ok (.invokespecial 173, 3) := by decide +kernel
theorem dX9_existingPiece_26 : decode cX9_existingPiece 26 = .ok (.athrow, 1) := by decide +kernel
theorem dX9_existingPiece_27 : decode cX9_existingPiece 27 = .ok (.aload_n 2, 1) := by decide +kernel
theorem dX9_existingPiece_28 : decode cX9_existingPiece 28 = .ok (.areturn, 1) := by decide +kernel
theorem dX9_checkRun_0 : decode cX9_checkRun 0 = .ok (.aload_n 0, 1) := by decide +kernel
theorem dX9_checkRun_1 : decode cX9_checkRun 1 = .ok (.getfield 33, 3) := by decide +kernel
theorem dX9_checkRun_4 : decode cX9_checkRun 4 = .ok (.getfield 349, 3) := by decide +kernel
theorem dX9_checkRun_7 : decode cX9_checkRun 7 = .ok (.ifCond .ne 14, 3) := by decide +kernel
theorem dX9_checkRun_10 : decode cX9_checkRun 10 = .ok (.new 80, 3) := by decide +kernel
theorem dX9_checkRun_13 : decode cX9_checkRun 13 = .ok (.dup, 1) := by decide +kernel
theorem dX9_checkRun_14 : decode cX9_checkRun 14 = .ok (.ldc_w 366, 3) := by decide +kernel
theorem dX9_checkRun_17 : decode cX9_checkRun 17 = .ok (.invokespecial 84, 3) := by decide +kernel
theorem dX9_checkRun_20 : decode cX9_checkRun 20 = .ok (.athrow, 1) := by decide +kernel
theorem dX9_checkRun_21 : decode cX9_checkRun 21 = .ok (.return_, 1) := by decide +kernel
theorem dX9_sheetOf_0 : decode cX9_sheetOf 0 = .ok (.aload_n 0, 1) := by decide +kernel
theorem dX9_sheetOf_1 : decode cX9_sheetOf 1 = .ok (.invokevirtual 303, 3) := by decide +kernel
theorem dX9_sheetOf_4 : decode cX9_sheetOf 4 = .ok (.iload_n 1, 1) := by decide +kernel
theorem dX9_sheetOf_5 : decode cX9_sheetOf 5 = .ok (.ifCond .lt 14, 3) := by decide +kernel
theorem dX9_sheetOf_8 : decode cX9_sheetOf 8 = .ok (.iload_n 1, 1) := by decide +kernel
theorem dX9_sheetOf_9 : decode cX9_sheetOf 9 = .ok (.aload_n 0, 1) := by decide +kernel
theorem dX9_sheetOf_10 : decode cX9_sheetOf 10 = .ok (.getfield 33, 3) := by decide +kernel
theorem dX9_sheetOf_13 : decode cX9_sheetOf 13 = .ok (.getfield 349, 3) := by decide +kernel
theorem dX9_sheetOf_16 : decode cX9_sheetOf 16 = .ok (.if_icmp .lt 14, 3) := by decide +kernel
theorem dX9_sheetOf_19 : decode cX9_sheetOf 19 = .ok (.new 272, 3) := by decide +kernel
theorem dX9_sheetOf_22 : decode cX9_sheetOf 22 = .ok (.dup, 1) := by decide +kernel
theorem dX9_sheetOf_23 : decode cX9_sheetOf 23 = .ok (.ldc_w 368, 3) := by decide +kernel
theorem dX9_sheetOf_26 : decode cX9_sheetOf 26 = .ok (.invokespecial 276, 3) := by decide +kernel
theorem dX9_sheetOf_29 : decode cX9_sheetOf 29 = .ok (.athrow, 1) := by decide +kernel
theorem dX9_sheetOf_30 : decode cX9_sheetOf 30 = .ok (.aload_n 0, 1) := by decide +kernel
theorem dX9_sheetOf_31 : decode cX9_sheetOf 31 = .ok (.getfield 33, 3) := by decide +kernel
theorem dX9_sheetOf_34 : decode cX9_sheetOf 34 = .ok (.getfield 370, 3) := by decide +kernel
theorem dX9_sheetOf_37 : decode cX9_sheetOf 37 = .ok (.iload_n 1, 1) := by decide +kernel
theorem dX9_sheetOf_38 : decode cX9_sheetOf 38 = .ok (.aaload, 1) := by decide +kernel
theorem dX9_sheetOf_39 : decode cX9_sheetOf 39 = .ok (.areturn, 1) := by decide +kernel
theorem dX9_takeBuffer_0 : decode cX9_takeBuffer 0 = .ok (.aload_n 0, 1) := by decide +kernel
theorem dX9_takeBuffer_1 : decode cX9_takeBuffer 1 = .ok (.getfield 10, 3) := by decide +kernel
theorem dX9_takeBuffer_4 : decode cX9_takeBuffer 4 = .ok (.invokevirtual 374, 3) := by decide +kernel
theorem dX9_takeBuffer_7 : decode cX9_takeBuffer 7 = .ok (.astore_n 1, 1) := by decide +kernel
theorem dX9_takeBuffer_8 : decode cX9_takeBuffer 8 = .ok (.aload_n 0, 1) := by decide +kernel
theorem dX9_takeBuffer_9 : decode cX9_takeBuffer 9 = .ok (.getfield 10, 3) := by decide +kernel
theorem dX9_takeBuffer_12 : decode cX9_takeBuffer 12 = .ok (.iconst 0, 1) := by decide +kernel
theorem dX9_takeBuffer_13 : decode cX9_takeBuffer 13 = .ok (.invokevirtual 377, 3) := by decide +kernel
theorem dX9_takeBuffer_16 : decode cX9_takeBuffer 16 = .ok (.aload_n 1, 1) := by decide +kernel
theorem dX9_takeBuffer_17 : decode cX9_takeBuffer 17 = .ok (.areturn, 1) := by decide +kernel
theorem dX9_takeFieldText_0 : decode cX9_takeFieldText 0 = .ok (.aload_n 0, 1) := by decide +kernel
theorem dX9_takeFieldText_1 : decode cX9_takeFieldText 1 = .ok (.invokevirtual 194, 3) := by decide +kernel
theorem dX9_takeFieldText_4 : decode cX9_takeFieldText 4 = .ok (.astore_n 1, 1) := by decide +kernel
theorem dX9_takeFieldText_5 : decode cX9_takeFieldText 5 = .ok (.aload_n 1, 1) := by decide +kernel
theorem dX9_takeFieldText_6 : decode cX9_takeFieldText 6 = .ok (.invokestatic 380, 3) := by decide +kernel
theorem dX9_takeFieldText_9 : decode cX9_takeFieldText 9 = .ok (.istore_n 2, 1) := by decide +kernel
theorem dX9_takeFieldText_10 : decode cX9_takeFieldText 10 = .ok (.iload_n 2, 1) := by decide +kernel
theorem dX9_takeFieldText_11 : decode cX9_takeFieldText 11 = .ok (.ifCond .lt 19, 3) := by decide +kernel
theorem dX9_takeFieldText_14 : decode cX9_takeFieldText 14 = .ok (.aload_n 0, 1) := by decide +kernel
theorem dX9_takeFieldText_15 : decode cX9_takeFieldText 15 = .ok (.iload_n 2, 1) := by decide +kernel
theorem dX9_takeFieldText_16 : decode cX9_takeFieldText 16 = .ok (.putfield 52, 3) := by decide +kernel
theorem dX9_takeFieldText_19 : decode cX9_takeFieldText 19 = .ok (.new 69, 3) := by decide +kernel
theorem dX9_takeFieldText_22 : decode cX9_takeFieldText 22 = .ok (.dup, 1) := by decide +kernel
theorem dX9_takeFieldText_23 : decode cX9_takeFieldText 23 = .ok (.ldc_w 384, 3) := by decide +kernel
theorem dX9_takeFieldText_26 : decode cX9_takeFieldText 26 = .ok (.invokespecial 73, 3) := by decide +kernel
theorem dX9_takeFieldText_29 : decode cX9_takeFieldText 29 = .ok (.athrow, 1) := by decide +kernel
theorem dX9_takeFieldText_30 : decode cX9_takeFieldText 30 = .ok (.new 153, 3) := by decide +kernel
theorem dX9_takeFieldText_33 : decode cX9_takeFieldText 33 = .ok (.dup, 1) := by decide +kernel
theorem dX9_takeFieldText_34 : decode cX9_takeFieldText 34 = .ok (.aload_n 1, 1) := by decide +kernel
theorem dX9_takeFieldText_35 : decode cX9_takeFieldText 35 = .ok (.invokespecial 386, 3) := by decide +kernel
theorem dX9_takeFieldText_38 : decode cX9_takeFieldText 38 = .ok (.areturn, 1) := by decide +kernel
theorem dX9_wrongPlaceOfField_0 : decode cX9_wrongPlaceOfField 0 = .ok (.iconst 0, 1) := by decide +kernel
theorem dX9_wrongPlaceOfField_1 : decode cX9_wrongPlaceOfField 1 = .ok (.istore_n 1, 1) := by decide +kernel
theorem dX9_wrongPlaceOfField_2 : decode cX9_wrongPlaceOfField 2 = .ok (.iload_n 1, 1) := by decide +kernel
theorem dX9_wrongPlaceOfField_3 : decode cX9_wrongPlaceOfField 3 = .ok (.aload_n 0, 1) := by decide +kernel
theorem dX9_wrongPlaceOfField_4 : decode cX9_wrongPlaceOfField 4 = .ok (.invokevirtual 387, 3) := by decide +kernel
theorem dX9_wrongPlaceOfField_7 : decode cX9_wrongPlaceOfField 7 = .ok (.if_icmp .ge 27, 3) := by decide +kernel
theorem dX9_wrongPlaceOfField_10 : decode cX9_wrongPlaceOfField 10 = .ok (.iload_n 1, 1) := by decide +kernel
theorem dX9_wrongPlaceOfField_11 : decode cX9_wrongPlaceOfField 11 = .ok (.bipush 12, 2) := by decide +kernel
theorem dX9_wrongPlaceOfField_13 : decode cX9_wrongPlaceOfField 13 = .ok (.if_icmp .eq 13, 3) := by decide +kernel
theorem dX9_wrongPlaceOfField_16 : decode cX9_wrongPlaceOfField 16 = .ok (.aload_n 0, 1) := by decide +kernel
theorem dX9_wrongPlaceOfField_17 : decode cX9_wrongPlaceOfField 17 = .ok (.iload_n 1, 1) := by decide +kernel
theorem dX9_wrongPlaceOfField_18 : decode cX9_wrongPlaceOfField 18 = .ok (.invokevirtual 390, 3) := by decide +kernel
theorem dX9_wrongPlaceOfField_21 : decode cX9_wrongPlaceOfField 21 = .ok (.bipush 47, 2) := by decide +kernel
theorem dX9_wrongPlaceOfField_23 : decode cX9_wrongPlaceOfField 23 = .ok (.if_icmp .ne 5, 3) := by decide +kernel
theorem dX9_wrongPlaceOfField_26 : decode cX9_wrongPlaceOfField 26 = .ok (.iload_n 1, 1) := by decide +kernel
theorem dX9_wrongPlaceOfField_27 : decode cX9_wrongPlaceOfField 27 = .ok (.ireturn, 1) := by decide +kernel
theorem dX9_wrongPlaceOfField_28 : decode cX9_wrongPlaceOfField 28 = .ok (.iinc 1 1, 3) := by decide +kernel
theorem dX9_wrongPlaceOfField_31 : decode cX9_wrongPlaceOfField 31 = .ok (.goto (-29), 3) := by decide +kernel
theorem dX9_wrongPlaceOfField_34 : decode cX9_wrongPlaceOfField 34 = .ok (.iconst (-1), 1) := by decide +kernel
theorem dX9_wrongPlaceOfField_35 : decode cX9_wrongPlaceOfField 35 = .ok (.ireturn, 1) := by decide +kernel
theorem dX9_remember_0 : decode cX9_remember 0 = .ok (.aload_n 0, 1) := by decide +kernel
theorem dX9_remember_1 : decode cX9_remember 1 = .ok (.getfield 48, 3) := by decide +kernel
theorem dX9_remember_4 : decode cX9_remember 4 = .ok (.aload_n 0, 1) := by decide +kernel
theorem dX9_remember_5 : decode cX9_remember 5 = .ok (.getfield 26, 3) := by decide +kernel
theorem dX9_remember_8 : decode cX9_remember 8 = .ok (.arraylength, 1) := by decide +kernel
theorem dX9_remember_9 : decode cX9_remember 9 = .ok (.if_icmp .lt 7, 3) := by decide +kernel
theorem dX9_remember_12 : decode cX9_remember 12 = .ok (.aload_n 0, 1) := by decide +kernel
theorem dX9_remember_13 : decode cX9_remember 13 = .ok (.invokevirtual 393, 3) := by decide +kernel
theorem dX9_remember_16 : decode cX9_remember 16 = .ok (.aload_n 0, 1) := by decide +kernel
theorem dX9_remember_17 : decode cX9_remember 17 = .ok (.getfield 26, 3) := by decide +kernel
theorem dX9_remember_20 : decode cX9_remember 20 = .ok (.aload_n 0, 1) := by decide +kernel
theorem dX9_remember_21 : decode cX9_remember 21 = .ok (.getfield 48, 3) := by decide +kernel
theorem dX9_remember_24 : decode cX9_remember 24 = .ok (.aaload, 1) := by decide +kernel
theorem dX9_remember_25 : decode cX9_remember 25 = .ok (.aload_n 0, 1) := by decide +kernel
theorem dX9_remember_26 : decode cX9_remember 26 = .ok (.getfield 19, 3) := by decide +kernel
theorem dX9_remember_29 : decode cX9_remember 29 = .ok (.invokevirtual 352, 3) := by decide +kernel
theorem dX9_remember_32 : decode cX9_remember 32 = .ok (.aload_n 0, 1) := by decide +kernel
theorem dX9_remember_33 : decode cX9_remember 33 = .ok (.dup, 1) := by decide +kernel
theorem dX9_remember_34 : decode cX9_remember 34 = .ok (.getfield 48, 3) := by decide +kernel
theorem dX9_remember_37 : decode cX9_remember 37 = .ok (.iconst 1, 1) := by decide +kernel
theorem dX9_remember_38 : decode cX9_remember 38 = .ok (.iadd, 1) := by decide +kernel
theorem dX9_remember_39 : decode cX9_remember 39 = .ok (.putfield 48, 3) := by decide +kernel
theorem dX9_remember_42 : decode cX9_remember 42 = .ok (.return_, 1) := by decide +kernel
theorem dX9_forgetOldest_0 : decode cX9_forgetOldest 0 = .ok (.aload_n 0, 1) := by decide +kernel
theorem dX9_forgetOldest_1 : decode cX9_forgetOldest 1 = .ok (.getfield 26, 3) := by decide +kernel
theorem dX9_forgetOldest_4 : decode cX9_forgetOldest 4 = .ok (.iconst 0, 1) := by decide +kernel
theorem dX9_forgetOldest_5 : decode cX9_forgetOldest 5 = .ok (.aaload, 1) := by decide +kernel
theorem dX9_forgetOldest_6 : decode cX9_forgetOldest 6 = .ok (.astore_n 1, 1) := by decide +kernel
theorem dX9_forgetOldest_7 : decode cX9_forgetOldest 7 = .ok (.iconst 1, 1) := by decide +kernel
theorem dX9_forgetOldest_8 : decode cX9_forgetOldest 8 = .ok (.istore_n 2, 1) := by decide +kernel
theorem dX9_forgetOldest_9 : decode cX9_forgetOldest 9 = .ok (.iload_n 2, 1) := by decide +kernel
theorem dX9_forgetOldest_10 : decode cX9_forgetOldest 10 = .ok (.aload_n 0, 1) := by decide +kernel
theorem dX9_forgetOldest_11 : decode cX9_forgetOldest 11 = .ok (.getfield 26, 3) := by decide +kernel
theorem dX9_forgetOldest_14 : decode cX9_forgetOldest 14 = .ok (.arraylength, 1) := by decide +kernel
theorem dX9_forgetOldest_15 : decode cX9_forgetOldest 15 = .ok (.if_icmp .ge 23, 3) := by decide +kernel
theorem dX9_forgetOldest_18 : decode cX9_forgetOldest 18 = .ok (.aload_n 0, 1) := by decide +kernel
theorem dX9_forgetOldest_19 : decode cX9_forgetOldest 19 = .ok (.getfield 26, 3) := by decide +kernel
theorem dX9_forgetOldest_22 : decode cX9_forgetOldest 22 = .ok (.iload_n 2, 1) := by decide +kernel
theorem dX9_forgetOldest_23 : decode cX9_forgetOldest 23 = .ok (.iconst 1, 1) := by decide +kernel
theorem dX9_forgetOldest_24 : decode cX9_forgetOldest 24 = .ok (.isub, 1) := by decide +kernel
theorem dX9_forgetOldest_25 : decode cX9_forgetOldest 25 = .ok (.aload_n 0, 1) := by decide +kernel
theorem dX9_forgetOldest_26 : decode cX9_forgetOldest 26 = .ok (.getfield 26, 3) := by decide +kernel
theorem dX9_forgetOldest_29 : decode cX9_forgetOldest 29 = .ok (.iload_n 2, 1) := by decide +kernel
theorem dX9_forgetOldest_30 : decode cX9_forgetOldest 30 = .ok (.aaload, 1) := by decide +kernel
theorem dX9_forgetOldest_31 : decode cX9_forgetOldest 31 = .ok (.aastore, 1) := by decide +kernel
theorem dX9_forgetOldest_32 : decode cX9_forgetOldest 32 = .ok (.iinc 2 1, 3) := by decide +kernel
theorem dX9_forgetOldest_35 : decode cX9_forgetOldest 35 = .ok (.goto (-26), 3) := by decide +kernel
theorem dX9_forgetOldest_38 : decode cX9_forgetOldest 38 = .ok (.aload_n 0, 1) := by decide +kernel
theorem dX9_forgetOldest_39 : decode cX9_forgetOldest 39 = .ok (.getfield 26, 3) := by decide +kernel
theorem dX9_forgetOldest_42 : decode cX9_forgetOldest 42 = .ok (.aload_n 0, 1) := by decide +kernel
theorem dX9_forgetOldest_43 : decode cX9_forgetOldest 43 = .ok (.getfield 26, 3) := by decide +kernel
theorem dX9_forgetOldest_46 : decode cX9_forgetOldest 46 = .ok (.arraylength, 1) := by decide +kernel
theorem dX9_forgetOldest_47 : decode cX9_forgetOldest 47 = .ok (.iconst 1, 1) := by decide +kernel
theorem dX9_forgetOldest_48 : decode cX9_forgetOldest 48 = .ok (.isub, 1) := by decide +kernel
theorem dX9_forgetOldest_49 : decode cX9_forgetOldest 49 = .ok (.aload_n 1, 1) := by decide +kernel
theorem dX9_forgetOldest_50 : decode cX9_forgetOldest 50 = .ok (.aastore, 1) := by decide +kernel
theorem dX9_forgetOldest_51 : decode cX9_forgetOldest 51 = .ok (.aload_n 0, 1) := by decide +kernel
theorem dX9_forgetOldest_52 : decode cX9_forgetOldest 52 = .ok (.aload_n 0, 1) := by decide +kernel
theorem dX9_forgetOldest_53 : decode cX9_forgetOldest 53 = .ok (.getfield 26, 3) := by decide +kernel
theorem dX9_forgetOldest_56 : decode cX9_forgetOldest 56 = .ok (.arraylength, 1) := by decide +kernel
theorem dX9_forgetOldest_57 : decode cX9_forgetOldest 57 = .ok (.iconst 1, 1) := by decide +kernel
theorem dX9_forgetOldest_58 : decode cX9_forgetOldest 58 = .ok (.isub, 1) := by decide +kernel
theorem dX9_forgetOldest_59 : decode cX9_forgetOldest 59 = .ok (.putfield 48, 3) := by decide +kernel
theorem dX9_forgetOldest_62 : decode cX9_forgetOldest 62 = .ok (.return_, 1) := by decide +kernel
theorem dX10_init_0 : decode cX10_init 0 = .ok (.aload_n 0, 1) := by decide +kernel
theorem dX10_init_1 : decode cX10_init 1 = .ok (.invokespecial 1, 3) := by decide +kernel
theorem dX10_init_4 : decode cX10_init 4 = .ok (.aload_n 0, 1) := by decide +kernel
theorem dX10_init_5 : decode cX10_init 5 = .ok (.sipush 14790, 3) := by decide +kernel
theorem dX10_init_8 : decode cX10_init 8 = .ok (.newarray .int, 2) := by decide +kernel
theorem dX10_init_10 : decode cX10_init 10 = .ok (.putfield 9, 3) := by decide +kernel
theorem dX10_init_13 : decode cX10_init 13 = .ok (.aload_n 0, 1) := by decide +kernel
theorem dX10_init_14 : decode cX10_init 14 = .ok (.bipush 120, 2) := by decide +kernel
theorem dX10_init_16 : decode cX10_init 16 = .ok (.newarray .int, 2) := by decide +kernel
theorem dX10_init_18 : decode cX10_init 18 = .ok (.putfield 13, 3) := by decide +kernel
theorem dX10_init_21 : decode cX10_init 21 = .ok (.aload_n 0, 1) := by decide +kernel
theorem dX10_init_22 : decode cX10_init 22 = .ok (.iconst (-1), 1) := by decide +kernel
theorem dX10_init_23 : decode cX10_init 23 = .ok (.putfield 16, 3) := by decide +kernel
theorem dX10_init_26 : decode cX10_init 26 = .ok (.aload_n 0, 1) := by decide +kernel
theorem dX10_init_27 : decode cX10_init 27 = .ok (.bipush 67, 2) := by decide +kernel
theorem dX10_init_29 : decode cX10_init 29 = .ok (.newarray .int, 2) := by decide +kernel
theorem dX10_init_31 : decode cX10_init 31 = .ok (.putfield 20, 3) := by decide +kernel
theorem dX10_init_34 : decode cX10_init 34 = .ok (.aload_n 0, 1) := by decide +kernel
theorem dX10_init_35 : decode cX10_init 35 = .ok (.bipush 20, 2) := by decide +kernel
theorem dX10_init_37 : decode cX10_init 37 = .ok (.newarray .int, 2) := by decide +kernel
theorem dX10_init_39 : decode cX10_init 39 = .ok (.putfield 23, 3) := by decide +kernel
theorem dX10_init_42 : decode cX10_init 42 = .ok (.aload_n 0, 1) := by decide +kernel
theorem dX10_init_43 : decode cX10_init 43 = .ok (.sipush 1340, 3) := by decide +kernel
theorem dX10_init_46 : decode cX10_init 46 = .ok (.newarray .int, 2) := by decide +kernel
theorem dX10_init_48 : decode cX10_init 48 = .ok (.putfield 26, 3) := by decide +kernel
theorem dX10_init_51 : decode cX10_init 51 = .ok (.aload_n 0, 1) := by decide +kernel
theorem dX10_init_52 : decode cX10_init 52 = .ok (.bipush 120, 2) := by decide +kernel
theorem dX10_init_54 : decode cX10_init 54 = .ok (.newarray .int, 2) := by decide +kernel
theorem dX10_init_56 : decode cX10_init 56 = .ok (.putfield 29, 3) := by decide +kernel
theorem dX10_init_59 : decode cX10_init 59 = .ok (.aload_n 0, 1) := by decide +kernel
theorem dX10_init_60 : decode cX10_init 60 = .ok (.bipush 120, 2) := by decide +kernel
theorem dX10_init_62 : decode cX10_init 62 = .ok (.newarray .int, 2) := by decide +kernel
theorem dX10_init_64 : decode cX10_init 64 = .ok (.putfield 32, 3) := by decide +kernel
theorem dX10_init_67 : decode cX10_init 67 = .ok (.aload_n 0, 1) := by decide +kernel
theorem dX10_init_68 : decode cX10_init 68 = .ok (.bipush 120, 2) := by decide +kernel
theorem dX10_init_70 : decode cX10_init 70 = .ok (.newarray .int, 2) := by decide +kernel
theorem dX10_init_72 : decode cX10_init 72 = .ok (.putfield 35, 3) := by decide +kernel
theorem dX10_init_75 : decode cX10_init 75 = .ok (.aload_n 0, 1) := by decide +kernel
theorem dX10_init_76 : decode cX10_init 76 = .ok (.bipush 120, 2) := by decide +kernel
theorem dX10_init_78 : decode cX10_init 78 = .ok (.newarray .int, 2) := by decide +kernel
theorem dX10_init_80 : decode cX10_init 80 = .ok (.putfield 38, 3) := by decide +kernel
theorem dX10_init_83 : decode cX10_init 83 = .ok (.aload_n 0, 1) := by decide +kernel
theorem dX10_init_84 : decode cX10_init 84 = .ok (.bipush 120, 2) := by decide +kernel
theorem dX10_init_86 : decode cX10_init 86 = .ok (.newarray .int, 2) := by decide +kernel
theorem dX10_init_88 : decode cX10_init 88 = .ok (.putfield 41, 3) := by decide +kernel
theorem dX10_init_91 : decode cX10_init 91 = .ok (.aload_n 0, 1) := by decide +kernel
theorem dX10_init_92 : decode cX10_init 92 = .ok (.bipush 120, 2) := by decide +kernel
theorem dX10_init_94 : decode cX10_init 94 = .ok (.newarray .int, 2) := by decide +kernel
theorem dX10_init_96 : decode cX10_init 96 = .ok (.putfield 44, 3) := by decide +kernel
theorem dX10_init_99 : decode cX10_init 99 = .ok (.aload_n 0, 1) := by decide +kernel
theorem dX10_init_100 : decode cX10_init 100 = .ok (.bipush 120, 2) := by decide +kernel
theorem dX10_init_102 : decode cX10_init 102 = .ok (.newarray .int, 2) := by decide +kernel
theorem dX10_init_104 : decode cX10_init 104 = .ok (.putfield 47, 3) := by decide +kernel
theorem dX10_init_107 : decode cX10_init 107 = .ok (.aload_n 0, 1) := by decide +kernel
theorem dX10_init_108 : decode cX10_init 108 = .ok (.bipush 120, 2) := by decide +kernel
theorem dX10_init_110 : decode cX10_init 110 = .ok (.newarray .int, 2) := by decide +kernel
theorem dX10_init_112 : decode cX10_init 112 = .ok (.putfield 50, 3) := by decide +kernel
theorem dX10_init_115 : decode cX10_init 115 = .ok (.aload_n 0, 1) := by decide +kernel
theorem dX10_init_116 : decode cX10_init 116 = .ok (.bipush 120, 2) := by decide +kernel
theorem dX10_init_118 : decode cX10_init 118 = .ok (.newarray .boolean, 2) := by decide +kernel
theorem dX10_init_120 : decode cX10_init 120 = .ok (.putfield 53, 3) := by decide +kernel
theorem dX10_init_123 : decode cX10_init 123 = .ok (.aload_n 0, 1) := by decide +kernel
theorem dX10_init_124 : decode cX10_init 124 = .ok (.sipush 200, 3) := by decide +kernel
theorem dX10_init_127 : decode cX10_init 127 = .ok (.newarray .int, 2) := by decide +kernel
theorem dX10_init_129 : decode cX10_init 129 = .ok (.putfield 57, 3) := by decide +kernel
theorem dX10_init_132 : decode cX10_init 132 = .ok (.aload_n 0, 1) := by decide +kernel
theorem dX10_init_133 : decode cX10_init 133 = .ok (.iconst (-1), 1) := by decide +kernel
theorem dX10_init_134 : decode cX10_init 134 = .ok (.putfield 60, 3) := by decide +kernel
theorem dX10_init_137 : decode cX10_init 137 = .ok (.aload_n 0, 1) := by decide +kernel
theorem dX10_init_138 : decode cX10_init 138 = .ok (.bipush 20, 2) := by decide +kernel
theorem dX10_init_140 : decode cX10_init 140 = .ok (.newarray .int, 2) := by decide +kernel
theorem dX10_init_142 : decode cX10_init 142 = .ok (.putfield 63, 3) := by decide +kernel
theorem dX10_init_145 : decode cX10_init 145 = .ok (.aload_n 0, 1) := by decide +kernel
theorem dX10_init_146 : decode cX10_init 146 = .ok (.bipush 20, 2) := by decide +kernel
theorem dX10_init_148 : decode cX10_init 148 = .ok (.newarray .int, 2) := by decide +kernel
theorem dX10_init_150 : decode cX10_init 150 = .ok (.putfield 66, 3) := by decide +kernel
theorem dX10_init_153 : decode cX10_init 153 = .ok (.aload_n 0, 1) := by decide +kernel
theorem dX10_init_154 : decode cX10_init 154 = .ok (.sipush 4000, 3) := by decide +kernel
theorem dX10_init_157 : decode cX10_init 157 = .ok (.newarray .int, 2) := by decide +kernel
theorem dX10_init_159 : decode cX10_init 159 = .ok (.putfield 69, 3) := by decide +kernel
theorem dX10_init_162 : decode cX10_init 162 = .ok (.aload_n 0, 1) := by decide +kernel
theorem dX10_init_163 : decode cX10_init 163 = .ok (.bipush 20, 2) := by decide +kernel
theorem dX10_init_165 : decode cX10_init 165 = .ok (.newarray .int, 2) := by decide +kernel
theorem dX10_init_167 : decode cX10_init 167 = .ok (.putfield 72, 3) := by decide +kernel
theorem dX10_init_170 : decode cX10_init 170 = .ok (.aload_n 0, 1) := by decide +kernel
theorem dX10_init_171 : decode cX10_init 171 = .ok (.bipush 100, 2) := by decide +kernel
theorem dX10_init_173 : decode cX10_init 173 = .ok (.newarray .int, 2) := by decide +kernel
theorem dX10_init_175 : decode cX10_init 175 = .ok (.putfield 75, 3) := by decide +kernel
theorem dX10_init_178 : decode cX10_init 178 = .ok (.aload_n 0, 1) := by decide +kernel
theorem dX10_init_179 : decode cX10_init 179 = .ok (.getfield 9, 3) := by decide +kernel
theorem dX10_init_182 : decode cX10_init 182 = .ok (.iconst 4, 1) := by decide +kernel
theorem dX10_init_183 : decode cX10_init 183 = .ok (.bipush 100, 2) := by decide +kernel
theorem dX10_init_185 : decode cX10_init 185 = .ok (.iastore, 1) := by decide +kernel
theorem dX10_init_186 : decode cX10_init 186 = .ok (.return_, 1) := by decide +kernel
theorem dX10_thrown_0 : decode cX10_thrown 0 = .ok (.aload_n 0, 1) := by decide +kernel
theorem dX10_thrown_1 : decode cX10_thrown 1 = .ok (.getfield 78, 3) := by decide +kernel
theorem dX10_thrown_4 : decode cX10_thrown 4 = .ok (.ireturn, 1) := by decide +kernel
theorem dX10_in_0 : decode cX10_in 0 = .ok (.iload_n 0, 1) := by decide +kernel
theorem dX10_in_1 : decode cX10_in 1 = .ok (.iload_n 1, 1) := by decide +kernel
theorem dX10_in_2 : decode cX10_in 2 = .ok (.if_icmp .lt 12, 3) := by decide +kernel
theorem dX10_in_5 : decode cX10_in 5 = .ok (.iload_n 0, 1) := by decide +kernel
theorem dX10_in_6 : decode cX10_in 6 = .ok (.iload_n 2, 1) := by decide +kernel
theorem dX10_in_7 : decode cX10_in 7 = .ok (.if_icmp .gt 7, 3) := by decide +kernel
theorem dX10_in_10 : decode cX10_in 10 = .ok (.iconst 1, 1) := by decide +kernel
theorem dX10_in_11 : decode cX10_in 11 = .ok (.goto 4, 3) := by decide +kernel
theorem dX10_in_14 : decode cX10_in 14 = .ok (.iconst 0, 1) := by decide +kernel
theorem dX10_in_15 : decode cX10_in 15 = .ok (.ireturn, 1) := by decide +kernel
theorem dX10_copies_0 : decode cX10_copies 0 = .ok (.iconst 0, 1) := by decide +kernel
theorem dX10_copies_1 : decode cX10_copies 1 = .ok (.istore_n 3, 1) := by decide +kernel
theorem dX10_copies_2 : decode cX10_copies 2 = .ok (.iload_n 3, 1) := by decide +kernel
theorem dX10_copies_3 : decode cX10_copies 3 = .ok (.sipush 1479, 3) := by decide +kernel
theorem dX10_copies_6 : decode cX10_copies 6 = .ok (.if_icmp .ge 33, 3) := by decide +kernel
theorem dX10_copies_9 : decode cX10_copies 9 = .ok (.aload_n 0, 1) := by decide +kernel
theorem dX10_copies_10 : decode cX10_copies 10 = .ok (.getfield 9, 3) := by decide +kernel
theorem dX10_copies_13 : decode cX10_copies 13 = .ok (.sipush 1479, 3) := by decide +kernel
theorem dX10_copies_16 : decode cX10_copies 16 = .ok (.iload_n 2, 1) := by decide +kernel
theorem dX10_copies_17 : decode cX10_copies 17 = .ok (.imul, 1) := by decide +kernel
theorem dX10_copies_18 : decode cX10_copies 18 = .ok (.iload_n 3, 1) := by decide +kernel
theorem dX10_copies_19 : decode cX10_copies 19 = .ok (.iadd, 1) := by decide +kernel
theorem dX10_copies_20 : decode cX10_copies 20 = .ok (.aload_n 0, 1) := by decide +kernel
theorem dX10_copies_21 : decode cX10_copies 21 = .ok (.getfield 9, 3) := by decide +kernel
theorem dX10_copies_24 : decode cX10_copies 24 = .ok (.sipush 1479, 3) := by decide +kernel
theorem dX10_copies_27 : decode cX10_copies 27 = .ok (.iload_n 1, 1) := by decide +kernel
theorem dX10_copies_28 : decode cX10_copies 28 = .ok (.imul, 1) := by decide +kernel
theorem dX10_copies_29 : decode cX10_copies 29 = .ok (.iload_n 3, 1) := by decide +kernel
theorem dX10_copies_30 : decode cX10_copies 30 = .ok (.iadd, 1) := by decide +kernel
theorem dX10_copies_31 : decode cX10_copies 31 = .ok (.iaload, 1) := by decide +kernel
theorem dX10_copies_32 : decode cX10_copies 32 = .ok (.iastore, 1) := by decide +kernel
theorem dX10_copies_33 : decode cX10_copies 33 = .ok (.iinc 3 1, 3) := by decide +kernel
theorem dX10_copies_36 : decode cX10_copies 36 = .ok (.goto (-34), 3) := by decide +kernel
theorem dX10_copies_39 : decode cX10_copies 39 = .ok (.return_, 1) := by decide +kernel
theorem dX10_keeps_0 : decode cX10_keeps 0 = .ok (.aload_n 0, 1) := by decide +kernel
theorem dX10_keeps_1 : decode cX10_keeps 1 = .ok (.getfield 81, 3) := by decide +kernel
theorem dX10_keeps_4 : decode cX10_keeps 4 = .ok (.bipush 8, 2) := by decide +kernel
theorem dX10_keeps_6 : decode cX10_keeps 6 = .ok (.if_icmp .ne 35, 3) := by decide +kernel
theorem dX10_keeps_9 : decode cX10_keeps 9 = .ok (.iconst 1, 1) := by decide +kernel
theorem dX10_keeps_10 : decode cX10_keeps 10 = .ok (.istore_n 1, 1) := by decide +kernel
theorem dX10_keeps_11 : decode cX10_keeps 11 = .ok (.iload_n 1, 1) := by decide +kernel
theorem dX10_keeps_12 : decode cX10_keeps 12 = .ok (.bipush 8, 2) := by decide +kernel
theorem dX10_keeps_14 : decode cX10_keeps 14 = .ok (.if_icmp .ge 17, 3) := by decide +kernel
theorem dX10_keeps_17 : decode cX10_keeps 17 = .ok (.aload_n 0, 1) := by decide +kernel
theorem dX10_keeps_18 : decode cX10_keeps 18 = .ok (.iload_n 1, 1) := by decide +kernel
theorem dX10_keeps_19 : decode cX10_keeps 19 = .ok (.iconst 1, 1) := by decide +kernel
theorem dX10_keeps_20 : decode cX10_keeps 20 = .ok (.iadd, 1) := by decide +kernel
theorem dX10_keeps_21 : decode cX10_keeps 21 = .ok (.iload_n 1, 1) := by decide +kernel
theorem dX10_keeps_22 : decode cX10_keeps 22 = .ok (.invokevirtual 84, 3) := by decide +kernel
theorem dX10_keeps_25 : decode cX10_keeps 25 = .ok (.iinc 1 1, 3) := by decide +kernel
theorem dX10_keeps_28 : decode cX10_keeps 28 = .ok (.goto (-17), 3) := by decide +kernel
theorem dX10_keeps_31 : decode cX10_keeps 31 = .ok (.aload_n 0, 1) := by decide +kernel
theorem dX10_keeps_32 : decode cX10_keeps 32 = .ok (.dup, 1) := by decide +kernel
theorem dX10_keeps_33 : decode cX10_keeps 33 = .ok (.getfield 81, 3) := by decide +kernel
theorem dX10_keeps_36 : decode cX10_keeps 36 = .ok (.iconst 1, 1) := by decide +kernel
theorem dX10_keeps_37 : decode cX10_keeps 37 = .ok (.isub, 1) := by decide +kernel
theorem dX10_keeps_38 : decode cX10_keeps 38 = .ok (.putfield 81, 3) := by decide +kernel
theorem dX10_keeps_41 : decode cX10_keeps 41 = .ok (.aload_n 0, 1) := by decide +kernel
theorem dX10_keeps_42 : decode cX10_keeps 42 = .ok (.dup, 1) := by decide +kernel
theorem dX10_keeps_43 : decode cX10_keeps 43 = .ok (.getfield 81, 3) := by decide +kernel
theorem dX10_keeps_46 : decode cX10_keeps 46 = .ok (.iconst 1, 1) := by decide +kernel
theorem dX10_keeps_47 : decode cX10_keeps 47 = .ok (.iadd, 1) := by decide +kernel
theorem dX10_keeps_48 : decode cX10_keeps 48 = .ok (.putfield 81, 3) := by decide +kernel
theorem dX10_keeps_51 : decode cX10_keeps 51 = .ok (.aload_n 0, 1) := by decide +kernel
theorem dX10_keeps_52 : decode cX10_keeps 52 = .ok (.iconst 0, 1) := by decide +kernel
theorem dX10_keeps_53 : decode cX10_keeps 53 = .ok (.aload_n 0, 1) := by decide +kernel
theorem dX10_keeps_54 : decode cX10_keeps 54 = .ok (.getfield 81, 3) := by decide +kernel
theorem dX10_keeps_57 : decode cX10_keeps 57 = .ok (.invokevirtual 84, 3) := by decide +kernel
theorem dX10_keeps_60 : decode cX10_keeps 60 = .ok (.return_, 1) := by decide +kernel
theorem dX10_isRecord_0 : decode cX10_isRecord 0 = .ok (.iload_n 1, 1) := by decide +kernel
theorem dX10_isRecord_1 : decode cX10_isRecord 1 = .ok (.iconst 0, 1) := by decide +kernel
theorem dX10_isRecord_2 : decode cX10_isRecord 2 = .ok (.aload_n 0, 1) := by decide +kernel
theorem dX10_isRecord_3 : decode cX10_isRecord 3 = .ok (.getfield 9, 3) := by decide +kernel
theorem dX10_isRecord_6 : decode cX10_isRecord 6 = .ok (.iconst 0, 1) := by decide +kernel
theorem dX10_isRecord_7 : decode cX10_isRecord 7 = .ok (.iaload, 1) := by decide +kernel
theorem dX10_isRecord_8 : decode cX10_isRecord 8 = .ok (.iconst 1, 1) := by decide +kernel
theorem dX10_isRecord_9 : decode cX10_isRecord 9 = .ok (.isub, 1) := by decide +kernel
theorem dX10_isRecord_10 : decode cX10_isRecord 10 = .ok (.invokestatic 88, 3) := by decide +kernel
theorem dX10_isRecord_13 : decode cX10_isRecord 13 = .ok (.ireturn, 1) := by decide +kernel
theorem dX10_groupOf_0 : decode cX10_groupOf 0 = .ok (.aload_n 0, 1) := by decide +kernel
theorem dX10_groupOf_1 : decode cX10_groupOf 1 = .ok (.getfield 9, 3) := by decide +kernel
theorem dX10_groupOf_4 : decode cX10_groupOf 4 = .ok (.sipush 139, 3) := by decide +kernel
theorem dX10_groupOf_7 : decode cX10_groupOf 7 = .ok (.bipush 67, 2) := by decide +kernel
theorem dX10_groupOf_9 : decode cX10_groupOf 9 = .ok (.iload_n 1, 1) := by decide +kernel
theorem dX10_groupOf_10 : decode cX10_groupOf 10 = .ok (.imul, 1) := by decide +kernel
theorem dX10_groupOf_11 : decode cX10_groupOf 11 = .ok (.iadd, 1) := by decide +kernel
theorem dX10_groupOf_12 : decode cX10_groupOf 12 = .ok (.iaload, 1) := by decide +kernel
theorem dX10_groupOf_13 : decode cX10_groupOf 13 = .ok (.ireturn, 1) := by decide +kernel
theorem dX10_countOf_0 : decode cX10_countOf 0 = .ok (.aload_n 0, 1) := by decide +kernel
theorem dX10_countOf_1 : decode cX10_countOf 1 = .ok (.getfield 9, 3) := by decide +kernel
theorem dX10_countOf_4 : decode cX10_countOf 4 = .ok (.sipush 139, 3) := by decide +kernel
theorem dX10_countOf_7 : decode cX10_countOf 7 = .ok (.bipush 67, 2) := by decide +kernel
theorem dX10_countOf_9 : decode cX10_countOf 9 = .ok (.iload_n 1, 1) := by decide +kernel
theorem dX10_countOf_10 : decode cX10_countOf 10 = .ok (.imul, 1) := by decide +kernel
theorem dX10_countOf_11 : decode cX10_countOf 11 = .ok (.iadd, 1) := by decide +kernel
theorem dX10_countOf_12 : decode cX10_countOf 12 = .ok (.iconst 1, 1) := by decide +kernel
theorem dX10_countOf_13 : decode cX10_countOf 13 = .ok (.iadd, 1) := by decide +kernel
theorem dX10_countOf_14 : decode cX10_countOf 14 = .ok (.iaload, 1) := by decide +kernel
theorem dX10_countOf_15 : decode cX10_countOf 15 = .ok (.ireturn, 1) := by decide +kernel
theorem dX10_longOf_0 : decode cX10_longOf 0 = .ok (.aload_n 0, 1) := by decide +kernel
theorem dX10_longOf_1 : decode cX10_longOf 1 = .ok (.getfield 9, 3) := by decide +kernel
theorem dX10_longOf_4 : decode cX10_longOf 4 = .ok (.sipush 139, 3) := by decide +kernel
theorem dX10_longOf_7 : decode cX10_longOf 7 = .ok (.bipush 67, 2) := by decide +kernel
theorem dX10_longOf_9 : decode cX10_longOf 9 = .ok (.iload_n 1, 1) := by decide +kernel
theorem dX10_longOf_10 : decode cX10_longOf 10 = .ok (.imul, 1) := by decide +kernel
theorem dX10_longOf_11 : decode cX10_longOf 11 = .ok (.iadd, 1) := by decide +kernel
theorem dX10_longOf_12 : decode cX10_longOf 12 = .ok (.iconst 2, 1) := by decide +kernel
theorem dX10_longOf_13 : decode cX10_longOf 13 = .ok (.iadd, 1) := by decide +kernel
theorem dX10_longOf_14 : decode cX10_longOf 14 = .ok (.iload_n 2, 1) := by decide +kernel
theorem dX10_longOf_15 : decode cX10_longOf 15 = .ok (.iadd, 1) := by decide +kernel
theorem dX10_longOf_16 : decode cX10_longOf 16 = .ok (.iaload, 1) := by decide +kernel
theorem dX10_longOf_17 : decode cX10_longOf 17 = .ok (.ireturn, 1) := by decide +kernel
theorem dX10_charOf_0 : decode cX10_charOf 0 = .ok (.aload_n 0, 1) := by decide +kernel
theorem dX10_charOf_1 : decode cX10_charOf 1 = .ok (.getfield 9, 3) := by decide +kernel
theorem dX10_charOf_4 : decode cX10_charOf 4 = .ok (.sipush 139, 3) := by decide +kernel
theorem dX10_charOf_7 : decode cX10_charOf 7 = .ok (.bipush 67, 2) := by decide +kernel
theorem dX10_charOf_9 : decode cX10_charOf 9 = .ok (.iload_n 1, 1) := by decide +kernel
theorem dX10_charOf_10 : decode cX10_charOf 10 = .ok (.imul, 1) := by decide +kernel
theorem dX10_charOf_11 : decode cX10_charOf 11 = .ok (.iadd, 1) := by decide +kernel
theorem dX10_charOf_12 : decode cX10_charOf 12 = .ok (.bipush 7, 2) := by decide +kernel
theorem dX10_charOf_14 : decode cX10_charOf 14 = .ok (.iadd, 1) := by decide +kernel
theorem dX10_charOf_15 : decode cX10_charOf 15 = .ok (.bipush 12, 2) := by decide +kernel
theorem dX10_charOf_17 : decode cX10_charOf 17 = .ok (.iload_n 2, 1) := by decide +kernel
theorem dX10_charOf_18 : decode cX10_charOf 18 = .ok (.imul, 1) := by decide +kernel
theorem dX10_charOf_19 : decode cX10_charOf 19 = .ok (.iadd, 1) := by decide +kernel
theorem dX10_charOf_20 : decode cX10_charOf 20 = .ok (.iload_n 3, 1) := by decide +kernel
theorem dX10_charOf_21 : decode cX10_charOf 21 = .ok (.iadd, 1) := by decide +kernel
theorem dX10_charOf_22 : decode cX10_charOf 22 = .ok (.iaload, 1) := by decide +kernel
theorem dX10_charOf_23 : decode cX10_charOf 23 = .ok (.ireturn, 1) := by decide +kernel
theorem dX10_isOut_0 : decode cX10_isOut 0 = .ok (.aload_n 0, 1) := by decide +kernel
theorem dX10_isOut_1 : decode cX10_isOut 1 = .ok (.getfield 9, 3) := by decide +kernel
theorem dX10_isOut_4 : decode cX10_isOut 4 = .ok (.iconst 3, 1) := by decide +kernel
theorem dX10_isOut_5 : decode cX10_isOut 5 = .ok (.iaload, 1) := by decide +kernel
theorem dX10_isOut_6 : decode cX10_isOut 6 = .ok (.aload_n 0, 1) := by decide +kernel
theorem dX10_isOut_7 : decode cX10_isOut 7 = .ok (.iload_n 1, 1) := by decide +kernel
theorem dX10_isOut_8 : decode cX10_isOut 8 = .ok (.invokevirtual 92, 3) := by decide +kernel
theorem dX10_isOut_11 : decode cX10_isOut 11 = .ok (.ishr, 1) := by decide +kernel
theorem dX10_isOut_12 : decode cX10_isOut 12 = .ok (.iconst 1, 1) := by decide +kernel
theorem dX10_isOut_13 : decode cX10_isOut 13 = .ok (.iand, 1) := by decide +kernel
theorem dX10_isOut_14 : decode cX10_isOut 14 = .ok (.iconst 1, 1) := by decide +kernel
theorem dX10_isOut_15 : decode cX10_isOut 15 = .ok (.if_icmp .ne 7, 3) := by decide +kernel
theorem dX10_isOut_18 : decode cX10_isOut 18 = .ok (.iconst 1, 1) := by decide +kernel
theorem dX10_isOut_19 : decode cX10_isOut 19 = .ok (.goto 4, 3) := by decide +kernel
theorem dX10_isOut_22 : decode cX10_isOut 22 = .ok (.iconst 0, 1) := by decide +kernel
theorem dX10_isOut_23 : decode cX10_isOut 23 = .ok (.ireturn, 1) := by decide +kernel
theorem dX10_clear_0 : decode cX10_clear 0 = .ok (.aload_n 0, 1) := by decide +kernel
theorem dX10_clear_1 : decode cX10_clear 1 = .ok (.iconst 0, 1) := by decide +kernel
theorem dX10_clear_2 : decode cX10_clear 2 = .ok (.putfield 78, 3) := by decide +kernel
theorem dX10_clear_5 : decode cX10_clear 5 = .ok (.aload_n 0, 1) := by decide +kernel
theorem dX10_clear_6 : decode cX10_clear 6 = .ok (.getfield 9, 3) := by decide +kernel
theorem dX10_clear_9 : decode cX10_clear 9 = .ok (.iconst 0, 1) := by decide +kernel
theorem dX10_clear_10 : decode cX10_clear 10 = .ok (.iaload, 1) := by decide +kernel
theorem dX10_clear_11 : decode cX10_clear 11 = .ok (.istore_n 1, 1) := by decide +kernel
theorem dX10_clear_12 : decode cX10_clear 12 = .ok (.iconst 0, 1) := by decide +kernel
theorem dX10_clear_13 : decode cX10_clear 13 = .ok (.istore_n 2, 1) := by decide +kernel
theorem dX10_clear_14 : decode cX10_clear 14 = .ok (.iload_n 2, 1) := by decide +kernel
theorem dX10_clear_15 : decode cX10_clear 15 = .ok (.sipush 1479, 3) := by decide +kernel
theorem dX10_clear_18 : decode cX10_clear 18 = .ok (.if_icmp .ge 16, 3) := by decide +kernel
theorem dX10_clear_21 : decode cX10_clear 21 = .ok (.aload_n 0, 1) := by decide +kernel
theorem dX10_clear_22 : decode cX10_clear 22 = .ok (.getfield 9, 3) := by decide +kernel
theorem dX10_clear_25 : decode cX10_clear 25 = .ok (.iload_n 2, 1) := by decide +kernel
theorem dX10_clear_26 : decode cX10_clear 26 = .ok (.iconst 0, 1) := by decide +kernel
theorem dX10_clear_27 : decode cX10_clear 27 = .ok (.iastore, 1) := by decide +kernel
theorem dX10_clear_28 : decode cX10_clear 28 = .ok (.iinc 2 1, 3) := by decide +kernel
theorem dX10_clear_31 : decode cX10_clear 31 = .ok (.goto (-17), 3) := by decide +kernel
theorem dX10_clear_34 : decode cX10_clear 34 = .ok (.aload_n 0, 1) := by decide +kernel
theorem dX10_clear_35 : decode cX10_clear 35 = .ok (.getfield 9, 3) := by decide +kernel
theorem dX10_clear_38 : decode cX10_clear 38 = .ok (.iconst 4, 1) := by decide +kernel
theorem dX10_clear_39 : decode cX10_clear 39 = .ok (.bipush 100, 2) := by decide +kernel
theorem dX10_clear_41 : decode cX10_clear 41 = .ok (.iastore, 1) := by decide +kernel
theorem dX10_clear_42 : decode cX10_clear 42 = .ok (.aload_n 0, 1) := by decide +kernel
theorem dX10_clear_43 : decode cX10_clear 43 = .ok (.iconst 0, 1) := by decide +kernel
theorem dX10_clear_44 : decode cX10_clear 44 = .ok (.putfield 81, 3) := by decide +kernel
theorem dX10_clear_47 : decode cX10_clear 47 = .ok (.iload_n 1, 1) := by decide +kernel
theorem dX10_clear_48 : decode cX10_clear 48 = .ok (.ireturn, 1) := by decide +kernel
theorem dX10_append_0 : decode cX10_append 0 = .ok (.aload_n 0, 1) := by decide +kernel
theorem dX10_append_1 : decode cX10_append 1 = .ok (.iconst 0, 1) := by decide +kernel
theorem dX10_append_2 : decode cX10_append 2 = .ok (.putfield 78, 3) := by decide +kernel
theorem dX10_append_5 : decode cX10_append 5 = .ok (.iconst 0, 1) := by decide +kernel
theorem dX10_append_6 : decode cX10_append 6 = .ok (.istore_n 2, 1) := by decide +kernel
theorem dX10_append_7 : decode cX10_append 7 = .ok (.bipush 24, 2) := by decide +kernel
theorem dX10_append_9 : decode cX10_append 9 = .ok (.istore_n 3, 1) := by decide +kernel
theorem dX10_append_10 : decode cX10_append 10 = .ok (.iload_n 3, 1) := by decide +kernel
theorem dX10_append_11 : decode cX10_append 11 = .ok (.ifCond .lt 48, 3) := by decide +kernel
theorem dX10_append_14 : decode cX10_append 14 = .ok (.iload_n 1, 1) := by decide +kernel
theorem dX10_append_15 : decode cX10_append 15 = .ok (.iload_n 3, 1) := by decide +kernel
theorem dX10_append_16 : decode cX10_append 16 = .ok (.iushr, 1) := by decide +kernel
theorem dX10_append_17 : decode cX10_append 17 = .ok (.sipush 255, 3) := by decide +kernel
theorem dX10_append_20 : decode cX10_append 20 = .ok (.iand, 1) := by decide +kernel
theorem dX10_append_21 : decode cX10_append 21 = .ok (.istore 4, 2) := by decide +kernel
theorem dX10_append_23 : decode cX10_append 23 = .ok (.iload 4, 2) := by decide +kernel
theorem dX10_append_25 : decode cX10_append 25 = .ok (.ifCond .ne 6, 3) := by decide +kernel
theorem dX10_append_28 : decode cX10_append 28 = .ok (.goto 25, 3) := by decide +kernel
theorem dX10_append_31 : decode cX10_append 31 = .ok (.iload 4, 2) := by decide +kernel
theorem dX10_append_33 : decode cX10_append 33 = .ok (.bipush 32, 2) := by decide +kernel
theorem dX10_append_35 : decode cX10_append 35 = .ok (.bipush 126, 2) := by decide +kernel
theorem dX10_append_37 : decode cX10_append 37 = .ok (.invokestatic 88, 3) := by decide +kernel
theorem dX10_append_40 : decode cX10_append 40 = .ok (.ifCond .ne 10, 3) := by decide +kernel
theorem dX10_append_43 : decode cX10_append 43 = .ok (.aload_n 0, 1) := by decide +kernel
theorem dX10_append_44 : decode cX10_append 44 = .ok (.iconst 1, 1) := by decide +kernel
theorem dX10_append_45 : decode cX10_append 45 = .ok (.putfield 78, 3) := by decide +kernel
theorem dX10_append_48 : decode cX10_append 48 = .ok (.iconst 0, 1) := by decide +kernel
theorem dX10_append_49 : decode cX10_append 49 = .ok (.ireturn, 1) := by decide +kernel
theorem dX10_append_50 : decode cX10_append 50 = .ok (.iinc 2 1, 3) := by decide +kernel
theorem dX10_append_53 : decode cX10_append 53 = .ok (.iinc 3 (-8), 3) := by decide +kernel
theorem dX10_append_56 : decode cX10_append 56 = .ok (.goto (-46), 3) := by decide +kernel
theorem dX10_append_59 : decode cX10_append 59 = .ok (.aload_n 0, 1) := by decide +kernel
theorem dX10_append_60 : decode cX10_append 60 = .ok (.getfield 96, 3) := by decide +kernel
theorem dX10_append_63 : decode cX10_append 63 = .ok (.iload_n 2, 1) := by decide +kernel
theorem dX10_append_64 : decode cX10_append 64 = .ok (.iadd, 1) := by decide +kernel
theorem dX10_append_65 : decode cX10_append 65 = .ok (.bipush 120, 2) := by decide +kernel
theorem dX10_append_67 : decode cX10_append 67 = .ok (.if_icmp .le 10, 3) := by decide +kernel
theorem dX10_append_70 : decode cX10_append 70 = .ok (.aload_n 0, 1) := by decide +kernel
theorem dX10_append_71 : decode cX10_append 71 = .ok (.iconst 2, 1) := by decide +kernel
theorem dX10_append_72 : decode cX10_append 72 = .ok (.putfield 78, 3) := by decide +kernel
theorem dX10_append_75 : decode cX10_append 75 = .ok (.iconst 0, 1) := by decide +kernel
theorem dX10_append_76 : decode cX10_append 76 = .ok (.ireturn, 1) := by decide +kernel
theorem dX10_append_77 : decode cX10_append 77 = .ok (.bipush 24, 2) := by decide +kernel
theorem dX10_append_79 : decode cX10_append 79 = .ok (.istore_n 3, 1) := by decide +kernel
theorem dX10_append_80 : decode cX10_append 80 = .ok (.iload_n 3, 1) := by decide +kernel
theorem dX10_append_81 : decode cX10_append 81 = .ok (.ifCond .lt 47, 3) := by decide +kernel
theorem dX10_append_84 : decode cX10_append 84 = .ok (.iload_n 1, 1) := by decide +kernel
theorem dX10_append_85 : decode cX10_append 85 = .ok (.iload_n 3, 1) := by decide +kernel
theorem dX10_append_86 : decode cX10_append 86 = .ok (.iushr, 1) := by decide +kernel
theorem dX10_append_87 : decode cX10_append 87 = .ok (.sipush 255, 3) := by decide +kernel
theorem dX10_append_90 : decode cX10_append 90 = .ok (.iand, 1) := by decide +kernel
theorem dX10_append_91 : decode cX10_append 91 = .ok (.istore 4, 2) := by decide +kernel
theorem dX10_append_93 : decode cX10_append 93 = .ok (.iload 4, 2) := by decide +kernel
theorem dX10_append_95 : decode cX10_append 95 = .ok (.ifCond .ne 6, 3) := by decide +kernel
theorem dX10_append_98 : decode cX10_append 98 = .ok (.goto 24, 3) := by decide +kernel
theorem dX10_append_101 : decode cX10_append 101 = .ok (.aload_n 0, 1) := by decide +kernel
theorem dX10_append_102 : decode cX10_append 102 = .ok (.getfield 13, 3) := by decide +kernel
theorem dX10_append_105 : decode cX10_append 105 = .ok (.aload_n 0, 1) := by decide +kernel
theorem dX10_append_106 : decode cX10_append 106 = .ok (.getfield 96, 3) := by decide +kernel
theorem dX10_append_109 : decode cX10_append 109 = .ok (.iload 4, 2) := by decide +kernel
theorem dX10_append_111 : decode cX10_append 111 = .ok (.iastore, 1) := by decide +kernel
theorem dX10_append_112 : decode cX10_append 112 = .ok (.aload_n 0, 1) := by decide +kernel
theorem dX10_append_113 : decode cX10_append 113 = .ok (.dup, 1) := by decide +kernel
theorem dX10_append_114 : decode cX10_append 114 = .ok (.getfield 96, 3) := by decide +kernel
theorem dX10_append_117 : decode cX10_append 117 = .ok (.iconst 1, 1) := by decide +kernel
theorem dX10_append_118 : decode cX10_append 118 = .ok (.iadd, 1) := by decide +kernel
theorem dX10_append_119 : decode cX10_append 119 = .ok (.putfield 96, 3) := by decide +kernel
theorem dX10_append_122 : decode cX10_append 122 = .ok (.iinc 3 (-8), 3) := by decide +kernel
theorem dX10_append_125 : decode cX10_append 125 = .ok (.goto (-45), 3) := by decide +kernel
theorem dX10_append_128 : decode cX10_append 128 = .ok (.aload_n 0, 1) := by decide +kernel
theorem dX10_append_129 : decode cX10_append 129 = .ok (.getfield 96, 3) := by decide +kernel
theorem dX10_append_132 : decode cX10_append 132 = .ok (.ireturn, 1) := by decide +kernel
theorem dX10_wrongField_0 : decode cX10_wrongField 0 = .ok (.iconst 0, 1) := by decide +kernel
theorem dX10_wrongField_1 : decode cX10_wrongField 1 = .ok (.istore_n 1, 1) := by decide +kernel
theorem dX10_wrongField_2 : decode cX10_wrongField 2 = .ok (.iload_n 1, 1) := by decide +kernel
theorem dX10_wrongField_3 : decode cX10_wrongField 3 = .ok (.aload_n 0, 1) := by decide +kernel
theorem dX10_wrongField_4 : decode cX10_wrongField 4 = .ok (.getfield 96, 3) := by decide +kernel
theorem dX10_wrongField_7 : decode cX10_wrongField 7 = .ok (.if_icmp .ge 28, 3) := by decide +kernel
theorem dX10_wrongField_10 : decode cX10_wrongField 10 = .ok (.iload_n 1, 1) := by decide +kernel
theorem dX10_wrongField_11 : decode cX10_wrongField 11 = .ok (.bipush 12, 2) := by decide +kernel
theorem dX10_wrongField_13 : decode cX10_wrongField 13 = .ok (.if_icmp .eq 14, 3) := by decide +kernel
theorem dX10_wrongField_16 : decode cX10_wrongField 16 = .ok (.aload_n 0, 1) := by decide +kernel
theorem dX10_wrongField_17 : decode cX10_wrongField 17 = .ok (.getfield 13, 3) := by decide +kernel
theorem dX10_wrongField_20 : decode cX10_wrongField 20 = .ok (.iload_n 1, 1) := by decide +kernel
theorem dX10_wrongField_21 : decode cX10_wrongField 21 = .ok (.iaload, 1) := by decide +kernel
theorem dX10_wrongField_22 : decode cX10_wrongField 22 = .ok (.bipush 47, 2) := by decide +kernel
theorem dX10_wrongField_24 : decode cX10_wrongField 24 = .ok (.if_icmp .ne 5, 3) := by decide +kernel
theorem dX10_wrongField_27 : decode cX10_wrongField 27 = .ok (.iload_n 1, 1) := by decide +kernel
theorem dX10_wrongField_28 : decode cX10_wrongField 28 = .ok (.ireturn, 1) := by decide +kernel
theorem dX10_wrongField_29 : decode cX10_wrongField 29 = .ok (.iinc 1 1, 3) := by decide +kernel
theorem dX10_wrongField_32 : decode cX10_wrongField 32 = .ok (.goto (-30), 3) := by decide +kernel
theorem dX10_wrongField_35 : decode cX10_wrongField 35 = .ok (.iconst (-1), 1) := by decide +kernel
theorem dX10_wrongField_36 : decode cX10_wrongField 36 = .ok (.ireturn, 1) := by decide +kernel
theorem dX10_errorPosition_0 : decode cX10_errorPosition 0 = .ok (.aload_n 0, 1) := by decide +kernel
theorem dX10_errorPosition_1 : decode cX10_errorPosition 1 = .ok (.aload_n 0, 1) := by decide +kernel
theorem dX10_errorPosition_2 : decode cX10_errorPosition 2 = .ok (.getfield 16, 3) := by decide +kernel
theorem dX10_errorPosition_5 : decode cX10_errorPosition 5 = .ok (.ifCond .ge 7, 3) := by decide +kernel
theorem dX10_errorPosition_8 : decode cX10_errorPosition 8 = .ok (.iconst 1, 1) := by decide +kernel
theorem dX10_errorPosition_9 : decode cX10_errorPosition 9 = .ok (.goto 4, 3) := by decide +kernel
theorem dX10_errorPosition_12 : decode cX10_errorPosition 12 = .ok (.iconst 0, 1) := by decide +kernel
theorem dX10_errorPosition_13 : decode cX10_errorPosition 13 = .ok (.putfield 78, 3) := by decide +kernel
theorem dX10_errorPosition_16 : decode cX10_errorPosition 16 = .ok (.aload_n 0, 1) := by decide +kernel
theorem dX10_errorPosition_17 : decode cX10_errorPosition 17 = .ok (.getfield 78, 3) := by decide +kernel
theorem dX10_errorPosition_20 : decode cX10_errorPosition 20 = .ok (.ifCond .ne 10, 3) := by decide +kernel
theorem dX10_errorPosition_23 : decode cX10_errorPosition 23 = .ok (.aload_n 0, 1) := by decide +kernel
theorem dX10_errorPosition_24 : decode cX10_errorPosition 24 = .ok (.getfield 16, 3) := by decide +kernel
theorem dX10_errorPosition_27 : decode cX10_errorPosition 27 = .ok (.goto 4, 3) := by decide +kernel
theorem dX10_errorPosition_30 : decode cX10_errorPosition 30 = .ok (.iconst 0, 1) := by decide +kernel
theorem dX10_errorPosition_31 : decode cX10_errorPosition 31 = .ok (.ireturn, 1) := by decide +kernel
theorem dX10_addRecord_0 : decode cX10_addRecord 0 = .ok (.aload_n 0, 1) := by decide +kernel
theorem dX10_addRecord_1 : decode cX10_addRecord 1 = .ok (.iload_n 1, 1) := by decide +kernel
theorem dX10_addRecord_2 : decode cX10_addRecord 2 = .ok (.iconst 0, 1) := by decide +kernel
theorem dX10_addRecord_3 : decode cX10_addRecord 3 = .ok (.bipush 9, 2) := by decide +kernel
theorem dX10_addRecord_5 : decode cX10_addRecord 5 = .ok (.invokestatic 88, 3) := by decide +kernel
theorem dX10_addRecord_8 : decode cX10_addRecord 8 = .ok (.ifCond .eq 13, 3) := by decide +kernel
theorem dX10_addRecord_11 : decode cX10_addRecord 11 = .ok (.iload_n 2, 1) := by decide +kernel
theorem dX10_addRecord_12 : decode cX10_addRecord 12 = .ok (.iconst 0, 1) := by decide +kernel
theorem dX10_addRecord_13 : decode cX10_addRecord 13 = .ok (.bipush 99, 2) := by decide +kernel
theorem dX10_addRecord_15 : decode cX10_addRecord 15 = .ok (.invokestatic 88, 3) := by decide +kernel
theorem dX10_addRecord_18 : decode cX10_addRecord 18 = .ok (.ifCond .ne 7, 3) := by decide +kernel
theorem dX10_addRecord_21 : decode cX10_addRecord 21 = .ok (.iconst 1, 1) := by decide +kernel
theorem dX10_addRecord_22 : decode cX10_addRecord 22 = .ok (.goto 19, 3) := by decide +kernel
theorem dX10_addRecord_25 : decode cX10_addRecord 25 = .ok (.aload_n 0, 1) := by decide +kernel
theorem dX10_addRecord_26 : decode cX10_addRecord 26 = .ok (.getfield 9, 3) := by decide +kernel
theorem dX10_addRecord_29 : decode cX10_addRecord 29 = .ok (.iconst 0, 1) := by decide +kernel
theorem dX10_addRecord_30 : decode cX10_addRecord 30 = .ok (.iaload, 1) := by decide +kernel
theorem dX10_addRecord_31 : decode cX10_addRecord 31 = .ok (.bipush 20, 2) := by decide +kernel
theorem dX10_addRecord_33 : decode cX10_addRecord 33 = .ok (.if_icmp .ne 7, 3) := by decide +kernel
theorem dX10_addRecord_36 : decode cX10_addRecord 36 = .ok (.iconst 2, 1) := by decide +kernel
theorem dX10_addRecord_37 : decode cX10_addRecord 37 = .ok (.goto 4, 3) := by decide +kernel
theorem dX10_addRecord_40 : decode cX10_addRecord 40 = .ok (.iconst 0, 1) := by decide +kernel
theorem dX10_addRecord_41 : decode cX10_addRecord 41 = .ok (.putfield 78, 3) := by decide +kernel
theorem dX10_addRecord_44 : decode cX10_addRecord 44 = .ok (.aload_n 0, 1) := by decide +kernel
theorem dX10_addRecord_45 : decode cX10_addRecord 45 = .ok (.getfield 78, 3) := by decide +kernel
theorem dX10_addRecord_48 : decode cX10_addRecord 48 = .ok (.ifCond .eq 5, 3) := by decide +kernel
theorem dX10_addRecord_51 : decode cX10_addRecord 51 = .ok (.iconst 0, 1) := by decide +kernel
theorem dX10_addRecord_52 : decode cX10_addRecord 52 = .ok (.ireturn, 1) := by decide +kernel
theorem dX10_addRecord_53 : decode cX10_addRecord 53 = .ok (.aload_n 0, 1) := by decide +kernel
theorem dX10_addRecord_54 : decode cX10_addRecord 54 = .ok (.invokevirtual 99, 3) := by decide +kernel
theorem dX10_addRecord_57 : decode cX10_addRecord 57 = .ok (.sipush 139, 3) := by decide +kernel
theorem dX10_addRecord_60 : decode cX10_addRecord 60 = .ok (.bipush 67, 2) := by decide +kernel
theorem dX10_addRecord_62 : decode cX10_addRecord 62 = .ok (.aload_n 0, 1) := by decide +kernel
theorem dX10_addRecord_63 : decode cX10_addRecord 63 = .ok (.getfield 9, 3) := by decide +kernel
theorem dX10_addRecord_66 : decode cX10_addRecord 66 = .ok (.iconst 0, 1) := by decide +kernel
theorem dX10_addRecord_67 : decode cX10_addRecord 67 = .ok (.iaload, 1) := by decide +kernel
theorem dX10_addRecord_68 : decode cX10_addRecord 68 = .ok (.imul, 1) := by decide +kernel
theorem dX10_addRecord_69 : decode cX10_addRecord 69 = .ok (.iadd, 1) := by decide +kernel
theorem dX10_addRecord_70 : decode cX10_addRecord 70 = .ok (.istore_n 3, 1) := by decide +kernel
theorem dX10_addRecord_71 : decode cX10_addRecord 71 = .ok (.iconst 0, 1) := by decide +kernel
theorem dX10_addRecord_72 : decode cX10_addRecord 72 = .ok (.istore 4, 2) := by decide +kernel
theorem dX10_addRecord_74 : decode cX10_addRecord 74 = .ok (.iload 4, 2) := by decide +kernel
theorem dX10_addRecord_76 : decode cX10_addRecord 76 = .ok (.bipush 67, 2) := by decide +kernel
theorem dX10_addRecord_78 : decode cX10_addRecord 78 = .ok (.if_icmp .ge 19, 3) := by decide +kernel
theorem dX10_addRecord_81 : decode cX10_addRecord 81 = .ok (.aload_n 0, 1) := by decide +kernel
theorem dX10_addRecord_82 : decode cX10_addRecord 82 = .ok (.getfield 9, 3) := by decide +kernel
theorem dX10_addRecord_85 : decode cX10_addRecord 85 = .ok (.iload_n 3, 1) := by decide +kernel
theorem dX10_addRecord_86 : decode cX10_addRecord 86 = .ok (.iload 4, 2) := by decide +kernel
theorem dX10_addRecord_88 : decode cX10_addRecord 88 = .ok (.iadd, 1) := by decide +kernel
theorem dX10_addRecord_89 : decode cX10_addRecord 89 = .ok (.iconst 0, 1) := by decide +kernel
theorem dX10_addRecord_90 : decode cX10_addRecord 90 = .ok (.iastore, 1) := by decide +kernel
theorem dX10_addRecord_91 : decode cX10_addRecord 91 = .ok (.iinc 4 1, 3) := by decide +kernel
theorem dX10_addRecord_94 : decode cX10_addRecord 94 = .ok (.goto (-20), 3) := by decide +kernel
theorem dX10_addRecord_97 : decode cX10_addRecord 97 = .ok (.aload_n 0, 1) := by decide +kernel
theorem dX10_addRecord_98 : decode cX10_addRecord 98 = .ok (.getfield 9, 3) := by decide +kernel
theorem dX10_addRecord_101 : decode cX10_addRecord 101 = .ok (.iload_n 3, 1) := by decide +kernel
theorem dX10_addRecord_102 : decode cX10_addRecord 102 = .ok (.iload_n 1, 1) := by decide +kernel
theorem dX10_addRecord_103 : decode cX10_addRecord 103 = .ok (.iastore, 1) := by decide +kernel
theorem dX10_addRecord_104 : decode cX10_addRecord 104 = .ok (.aload_n 0, 1) := by decide +kernel
theorem dX10_addRecord_105 : decode cX10_addRecord 105 = .ok (.getfield 9, 3) := by decide +kernel
theorem dX10_addRecord_108 : decode cX10_addRecord 108 = .ok (.iload_n 3, 1) := by decide +kernel
theorem dX10_addRecord_109 : decode cX10_addRecord 109 = .ok (.iconst 1, 1) := by decide +kernel
theorem dX10_addRecord_110 : decode cX10_addRecord 110 = .ok (.iadd, 1) := by decide +kernel
theorem dX10_addRecord_111 : decode cX10_addRecord 111 = .ok (.iload_n 2, 1) := by decide +kernel
theorem dX10_addRecord_112 : decode cX10_addRecord 112 = .ok (.iastore, 1) := by decide +kernel
theorem dX10_addRecord_113 : decode cX10_addRecord 113 = .ok (.aload_n 0, 1) := by decide +kernel
theorem dX10_addRecord_114 : decode cX10_addRecord 114 = .ok (.getfield 9, 3) := by decide +kernel
theorem dX10_addRecord_117 : decode cX10_addRecord 117 = .ok (.iconst 0, 1) := by decide +kernel
theorem dX10_addRecord_118 : decode cX10_addRecord 118 = .ok (.dup2, 1) := by decide +kernel
theorem dX10_addRecord_119 : decode cX10_addRecord 119 = .ok (.iaload, 1) := by decide +kernel
theorem dX10_addRecord_120 : decode cX10_addRecord 120 = .ok (.iconst 1, 1) := by decide +kernel
theorem dX10_addRecord_121 : decode cX10_addRecord 121 = .ok (.iadd, 1) := by decide +kernel
theorem dX10_addRecord_122 : decode cX10_addRecord 122 = .ok (.iastore, 1) := by decide +kernel
theorem dX10_addRecord_123 : decode cX10_addRecord 123 = .ok (.aload_n 0, 1) := by decide +kernel
theorem dX10_addRecord_124 : decode cX10_addRecord 124 = .ok (.getfield 9, 3) := by decide +kernel
theorem dX10_addRecord_127 : decode cX10_addRecord 127 = .ok (.iconst 0, 1) := by decide +kernel
theorem dX10_addRecord_128 : decode cX10_addRecord 128 = .ok (.iaload, 1) := by decide +kernel
theorem dX10_addRecord_129 : decode cX10_addRecord 129 = .ok (.iconst 1, 1) := by decide +kernel
theorem dX10_addRecord_130 : decode cX10_addRecord 130 = .ok (.isub, 1) := by decide +kernel
theorem dX10_addRecord_131 : decode cX10_addRecord 131 = .ok (.ireturn, 1) := by decide +kernel
theorem dX10_moves_0 : decode cX10_moves 0 = .ok (.iconst 0, 1) := by decide +kernel
theorem dX10_moves_1 : decode cX10_moves 1 = .ok (.istore_n 3, 1) := by decide +kernel
theorem dX10_moves_2 : decode cX10_moves 2 = .ok (.iload_n 3, 1) := by decide +kernel
theorem dX10_moves_3 : decode cX10_moves 3 = .ok (.bipush 67, 2) := by decide +kernel
theorem dX10_moves_5 : decode cX10_moves 5 = .ok (.if_icmp .ge 39, 3) := by decide +kernel
theorem dX10_moves_8 : decode cX10_moves 8 = .ok (.aload_n 0, 1) := by decide +kernel
theorem dX10_moves_9 : decode cX10_moves 9 = .ok (.getfield 9, 3) := by decide +kernel
theorem dX10_moves_12 : decode cX10_moves 12 = .ok (.sipush 139, 3) := by decide +kernel
theorem dX10_moves_15 : decode cX10_moves 15 = .ok (.bipush 67, 2) := by decide +kernel
theorem dX10_moves_17 : decode cX10_moves 17 = .ok (.iload_n 2, 1) := by decide +kernel
theorem dX10_moves_18 : decode cX10_moves 18 = .ok (.imul, 1) := by decide +kernel
theorem dX10_moves_19 : decode cX10_moves 19 = .ok (.iadd, 1) := by decide +kernel
theorem dX10_moves_20 : decode cX10_moves 20 = .ok (.iload_n 3, 1) := by decide +kernel
theorem dX10_moves_21 : decode cX10_moves 21 = .ok (.iadd, 1) := by decide +kernel
theorem dX10_moves_22 : decode cX10_moves 22 = .ok (.aload_n 0, 1) := by decide +kernel
theorem dX10_moves_23 : decode cX10_moves 23 = .ok (.getfield 9, 3) := by decide +kernel
theorem dX10_moves_26 : decode cX10_moves 26 = .ok (.sipush 139, 3) := by decide +kernel
theorem dX10_moves_29 : decode cX10_moves 29 = .ok (.bipush 67, 2) := by decide +kernel
theorem dX10_moves_31 : decode cX10_moves 31 = .ok (.iload_n 1, 1) := by decide +kernel
theorem dX10_moves_32 : decode cX10_moves 32 = .ok (.imul, 1) := by decide +kernel
theorem dX10_moves_33 : decode cX10_moves 33 = .ok (.iadd, 1) := by decide +kernel
theorem dX10_moves_34 : decode cX10_moves 34 = .ok (.iload_n 3, 1) := by decide +kernel
theorem dX10_moves_35 : decode cX10_moves 35 = .ok (.iadd, 1) := by decide +kernel
theorem dX10_moves_36 : decode cX10_moves 36 = .ok (.iaload, 1) := by decide +kernel
theorem dX10_moves_37 : decode cX10_moves 37 = .ok (.iastore, 1) := by decide +kernel
theorem dX10_moves_38 : decode cX10_moves 38 = .ok (.iinc 3 1, 3) := by decide +kernel
theorem dX10_moves_41 : decode cX10_moves 41 = .ok (.goto (-39), 3) := by decide +kernel
theorem dX10_moves_44 : decode cX10_moves 44 = .ok (.return_, 1) := by decide +kernel
theorem dX10_removeRecord_0 : decode cX10_removeRecord 0 = .ok (.aload_n 0, 1) := by decide +kernel
theorem dX10_removeRecord_1 : decode cX10_removeRecord 1 = .ok (.aload_n 0, 1) := by decide +kernel
theorem dX10_removeRecord_2 : decode cX10_removeRecord 2 = .ok (.iload_n 1, 1) := by decide +kernel
theorem dX10_removeRecord_3 : decode cX10_removeRecord 3 = .ok (.invokevirtual 102, 3) := by decide +kernel
theorem dX10_removeRecord_6 : decode cX10_removeRecord 6 = .ok (.ifCond .eq 7, 3) := by decide +kernel
theorem dX10_removeRecord_9 : decode cX10_removeRecord 9 = .ok (.iconst 0, 1) := by decide +kernel
theorem dX10_removeRecord_10 : decode cX10_removeRecord 10 = .ok (.goto 4, 3) := by decide +kernel
theorem dX10_removeRecord_13 : decode cX10_removeRecord 13 = .ok (.iconst 1, 1) := by decide +kernel
theorem dX10_removeRecord_14 : decode cX10_removeRecord 14 = .ok (.putfield 78, 3) := by decide +kernel
theorem dX10_removeRecord_17 : decode cX10_removeRecord 17 = .ok (.aload_n 0, 1) := by decide +kernel
theorem dX10_removeRecord_18 : decode cX10_removeRecord 18 = .ok (.getfield 78, 3) := by decide +kernel
theorem dX10_removeRecord_21 : decode cX10_removeRecord 21 = .ok (.ifCond .eq 5, 3) := by decide +kernel
theorem dX10_removeRecord_24 : decode cX10_removeRecord 24 = .ok (.iconst 0, 1) := by decide +kernel
theorem dX10_removeRecord_25 : decode cX10_removeRecord 25 = .ok (.ireturn, 1) := by decide +kernel
theorem dX10_removeRecord_26 : decode cX10_removeRecord 26 = .ok (.aload_n 0, 1) := by decide +kernel
theorem dX10_removeRecord_27 : decode cX10_removeRecord 27 = .ok (.invokevirtual 99, 3) := by decide +kernel
theorem dX10_removeRecord_30 : decode cX10_removeRecord 30 = .ok (.iload_n 1, 1) := by decide +kernel
theorem dX10_removeRecord_31 : decode cX10_removeRecord 31 = .ok (.istore_n 2, 1) := by decide +kernel
theorem dX10_removeRecord_32 : decode cX10_removeRecord 32 = .ok (.iload_n 2, 1) := by decide +kernel
theorem dX10_removeRecord_33 : decode cX10_removeRecord 33 = .ok (.aload_n 0, 1) := by decide +kernel
theorem dX10_removeRecord_34 : decode cX10_removeRecord 34 = .ok (.getfield 9, 3) := by decide +kernel
theorem dX10_removeRecord_37 : decode cX10_removeRecord 37 = .ok (.iconst 0, 1) := by decide +kernel
theorem dX10_removeRecord_38 : decode cX10_removeRecord 38 = .ok (.iaload, 1) := by decide +kernel
theorem dX10_removeRecord_39 : decode cX10_removeRecord 39 = .ok (.iconst 1, 1) := by decide +kernel
theorem dX10_removeRecord_40 : decode cX10_removeRecord 40 = .ok (.isub, 1) := by decide +kernel
theorem dX10_removeRecord_41 : decode cX10_removeRecord 41 = .ok (.if_icmp .ge 17, 3) := by decide +kernel
theorem dX10_removeRecord_44 : decode cX10_removeRecord 44 = .ok (.aload_n 0, 1) := by decide +kernel
theorem dX10_removeRecord_45 : decode cX10_removeRecord 45 = .ok (.iload_n 2, 1) := by decide +kernel
theorem dX10_removeRecord_46 : decode cX10_removeRecord 46 = .ok (.iconst 1, 1) := by decide +kernel
theorem dX10_removeRecord_47 : decode cX10_removeRecord 47 = .ok (.iadd, 1) := by decide +kernel
theorem dX10_removeRecord_48 : decode cX10_removeRecord 48 = .ok (.iload_n 2, 1) := by decide +kernel
theorem dX10_removeRecord_49 : decode cX10_removeRecord 49 = .ok (.invokevirtual 106, 3) := by decide +kernel
theorem dX10_removeRecord_52 : decode cX10_removeRecord 52 = .ok (.iinc 2 1, 3) := by decide +kernel
theorem dX10_removeRecord_55 : decode cX10_removeRecord 55 = .ok (.goto (-23), 3) := by decide +kernel
theorem dX10_removeRecord_58 : decode cX10_removeRecord 58 = .ok (.aload_n 0, 1) := by decide +kernel
theorem dX10_removeRecord_59 : decode cX10_removeRecord 59 = .ok (.getfield 9, 3) := by decide +kernel
theorem dX10_removeRecord_62 : decode cX10_removeRecord 62 = .ok (.iconst 0, 1) := by decide +kernel
theorem dX10_removeRecord_63 : decode cX10_removeRecord 63 = .ok (.dup2, 1) := by decide +kernel
theorem dX10_removeRecord_64 : decode cX10_removeRecord 64 = .ok (.iaload, 1) := by decide +kernel
theorem dX10_removeRecord_65 : decode cX10_removeRecord 65 = .ok (.iconst 1, 1) := by decide +kernel
theorem dX10_removeRecord_66 : decode cX10_removeRecord 66 = .ok (.isub, 1) := by decide +kernel
theorem dX10_removeRecord_67 : decode cX10_removeRecord 67 = .ok (.iastore, 1) := by decide +kernel
theorem dX10_removeRecord_68 : decode cX10_removeRecord 68 = .ok (.aload_n 0, 1) := by decide +kernel
theorem dX10_removeRecord_69 : decode cX10_removeRecord 69 = .ok (.getfield 9, 3) := by decide +kernel
theorem dX10_removeRecord_72 : decode cX10_removeRecord 72 = .ok (.iconst 0, 1) := by decide +kernel
theorem dX10_removeRecord_73 : decode cX10_removeRecord 73 = .ok (.iaload, 1) := by decide +kernel
theorem dX10_removeRecord_74 : decode cX10_removeRecord 74 = .ok (.ireturn, 1) := by decide +kernel
theorem dX10_moveRecord_0 : decode cX10_moveRecord 0 = .ok (.aload_n 0, 1) := by decide +kernel
theorem dX10_moveRecord_1 : decode cX10_moveRecord 1 = .ok (.aload_n 0, 1) := by decide +kernel
theorem dX10_moveRecord_2 : decode cX10_moveRecord 2 = .ok (.iload_n 1, 1) := by decide +kernel
theorem dX10_moveRecord_3 : decode cX10_moveRecord 3 = .ok (.invokevirtual 102, 3) := by decide +kernel
theorem dX10_moveRecord_6 : decode cX10_moveRecord 6 = .ok (.ifCond .eq 15, 3) := by decide +kernel
theorem dX10_moveRecord_9 : decode cX10_moveRecord 9 = .ok (.aload_n 0, 1) := by decide +kernel
theorem dX10_moveRecord_10 : decode cX10_moveRecord 10 = .ok (.iload_n 2, 1) := by decide +kernel
theorem dX10_moveRecord_11 : decode cX10_moveRecord 11 = .ok (.invokevirtual 102, 3) := by decide +kernel
theorem dX10_moveRecord_14 : decode cX10_moveRecord 14 = .ok (.ifCond .eq 7, 3) := by decide +kernel
theorem dX10_moveRecord_17 : decode cX10_moveRecord 17 = .ok (.iconst 0, 1) := by decide +kernel
theorem dX10_moveRecord_18 : decode cX10_moveRecord 18 = .ok (.goto 4, 3) := by decide +kernel
theorem dX10_moveRecord_21 : decode cX10_moveRecord 21 = .ok (.iconst 1, 1) := by decide +kernel
theorem dX10_moveRecord_22 : decode cX10_moveRecord 22 = .ok (.putfield 78, 3) := by decide +kernel
theorem dX10_moveRecord_25 : decode cX10_moveRecord 25 = .ok (.aload_n 0, 1) := by decide +kernel
theorem dX10_moveRecord_26 : decode cX10_moveRecord 26 = .ok (.getfield 78, 3) := by decide +kernel
theorem dX10_moveRecord_29 : decode cX10_moveRecord 29 = .ok (.ifCond .eq 5, 3) := by decide +kernel
theorem dX10_moveRecord_32 : decode cX10_moveRecord 32 = .ok (.iconst 0, 1) := by decide +kernel
theorem dX10_moveRecord_33 : decode cX10_moveRecord 33 = .ok (.ireturn, 1) := by decide +kernel
theorem dX10_moveRecord_34 : decode cX10_moveRecord 34 = .ok (.aload_n 0, 1) := by decide +kernel
theorem dX10_moveRecord_35 : decode cX10_moveRecord 35 = .ok (.invokevirtual 99, 3) := by decide +kernel
theorem dX10_moveRecord_38 : decode cX10_moveRecord 38 = .ok (.iconst 0, 1) := by decide +kernel
theorem dX10_moveRecord_39 : decode cX10_moveRecord 39 = .ok (.istore_n 3, 1) := by decide +kernel
theorem dX10_moveRecord_40 : decode cX10_moveRecord 40 = .ok (.iload_n 3, 1) := by decide +kernel
theorem dX10_moveRecord_41 : decode cX10_moveRecord 41 = .ok (.bipush 67, 2) := by decide +kernel
theorem dX10_moveRecord_43 : decode cX10_moveRecord 43 = .ok (.if_icmp .ge 30, 3) := by decide +kernel
theorem dX10_moveRecord_46 : decode cX10_moveRecord 46 = .ok (.aload_n 0, 1) := by decide +kernel
theorem dX10_moveRecord_47 : decode cX10_moveRecord 47 = .ok (.getfield 20, 3) := by decide +kernel
theorem dX10_moveRecord_50 : decode cX10_moveRecord 50 = .ok (.iload_n 3, 1) := by decide +kernel
theorem dX10_moveRecord_51 : decode cX10_moveRecord 51 = .ok (.aload_n 0, 1) := by decide +kernel
theorem dX10_moveRecord_52 : decode cX10_moveRecord 52 = .ok (.getfield 9, 3) := by decide +kernel
theorem dX10_moveRecord_55 : decode cX10_moveRecord 55 = .ok (.sipush 139, 3) := by decide +kernel
theorem dX10_moveRecord_58 : decode cX10_moveRecord 58 = .ok (.bipush 67, 2) := by decide +kernel
theorem dX10_moveRecord_60 : decode cX10_moveRecord 60 = .ok (.iload_n 1, 1) := by decide +kernel
theorem dX10_moveRecord_61 : decode cX10_moveRecord 61 = .ok (.imul, 1) := by decide +kernel
theorem dX10_moveRecord_62 : decode cX10_moveRecord 62 = .ok (.iadd, 1) := by decide +kernel
theorem dX10_moveRecord_63 : decode cX10_moveRecord 63 = .ok (.iload_n 3, 1) := by decide +kernel
theorem dX10_moveRecord_64 : decode cX10_moveRecord 64 = .ok (.iadd, 1) := by decide +kernel
theorem dX10_moveRecord_65 : decode cX10_moveRecord 65 = .ok (.iaload, 1) := by decide +kernel
theorem dX10_moveRecord_66 : decode cX10_moveRecord 66 = .ok (.iastore, 1) := by decide +kernel
theorem dX10_moveRecord_67 : decode cX10_moveRecord 67 = .ok (.iinc 3 1, 3) := by decide +kernel
theorem dX10_moveRecord_70 : decode cX10_moveRecord 70 = .ok (.goto (-30), 3) := by decide +kernel
theorem dX10_moveRecord_73 : decode cX10_moveRecord 73 = .ok (.iload_n 1, 1) := by decide +kernel
theorem dX10_moveRecord_74 : decode cX10_moveRecord 74 = .ok (.istore_n 3, 1) := by decide +kernel
theorem dX10_moveRecord_75 : decode cX10_moveRecord 75 = .ok (.iload_n 3, 1) := by decide +kernel
theorem dX10_moveRecord_76 : decode cX10_moveRecord 76 = .ok (.iload_n 2, 1) := by decide +kernel
theorem dX10_moveRecord_77 : decode cX10_moveRecord 77 = .ok (.if_icmp .ge 17, 3) := by decide +kernel
theorem dX10_moveRecord_80 : decode cX10_moveRecord 80 = .ok (.aload_n 0, 1) := by decide +kernel
theorem dX10_moveRecord_81 : decode cX10_moveRecord 81 = .ok (.iload_n 3, 1) := by decide +kernel
theorem dX10_moveRecord_82 : decode cX10_moveRecord 82 = .ok (.iconst 1, 1) := by decide +kernel
theorem dX10_moveRecord_83 : decode cX10_moveRecord 83 = .ok (.iadd, 1) := by decide +kernel
theorem dX10_moveRecord_84 : decode cX10_moveRecord 84 = .ok (.iload_n 3, 1) := by decide +kernel
theorem dX10_moveRecord_85 : decode cX10_moveRecord 85 = .ok (.invokevirtual 106, 3) := by decide +kernel
theorem dX10_moveRecord_88 : decode cX10_moveRecord 88 = .ok (.iinc 3 1, 3) := by decide +kernel
theorem dX10_moveRecord_91 : decode cX10_moveRecord 91 = .ok (.goto (-16), 3) := by decide +kernel
theorem dX10_moveRecord_94 : decode cX10_moveRecord 94 = .ok (.iload_n 1, 1) := by decide +kernel
theorem dX10_moveRecord_95 : decode cX10_moveRecord 95 = .ok (.istore_n 3, 1) := by decide +kernel
theorem dX10_moveRecord_96 : decode cX10_moveRecord 96 = .ok (.iload_n 3, 1) := by decide +kernel
theorem dX10_moveRecord_97 : decode cX10_moveRecord 97 = .ok (.iload_n 2, 1) := by decide +kernel
theorem dX10_moveRecord_98 : decode cX10_moveRecord 98 = .ok (.if_icmp .le 17, 3) := by decide +kernel
theorem dX10_moveRecord_101 : decode cX10_moveRecord 101 = .ok (.aload_n 0, 1) := by decide +kernel
theorem dX10_moveRecord_102 : decode cX10_moveRecord 102 = .ok (.iload_n 3, 1) := by decide +kernel
theorem dX10_moveRecord_103 : decode cX10_moveRecord 103 = .ok (.iconst 1, 1) := by decide +kernel
theorem dX10_moveRecord_104 : decode cX10_moveRecord 104 = .ok (.isub, 1) := by decide +kernel
theorem dX10_moveRecord_105 : decode cX10_moveRecord 105 = .ok (.iload_n 3, 1) := by decide +kernel
theorem dX10_moveRecord_106 : decode cX10_moveRecord 106 = .ok (.invokevirtual 106, 3) := by decide +kernel
theorem dX10_moveRecord_109 : decode cX10_moveRecord 109 = .ok (.iinc 3 (-1), 3) := by decide +kernel
theorem dX10_moveRecord_112 : decode cX10_moveRecord 112 = .ok (.goto (-16), 3) := by decide +kernel
theorem dX10_moveRecord_115 : decode cX10_moveRecord 115 = .ok (.iconst 0, 1) := by decide +kernel
theorem dX10_moveRecord_116 : decode cX10_moveRecord 116 = .ok (.istore_n 3, 1) := by decide +kernel
theorem dX10_moveRecord_117 : decode cX10_moveRecord 117 = .ok (.iload_n 3, 1) := by decide +kernel
theorem dX10_moveRecord_118 : decode cX10_moveRecord 118 = .ok (.bipush 67, 2) := by decide +kernel
theorem dX10_moveRecord_120 : decode cX10_moveRecord 120 = .ok (.if_icmp .ge 30, 3) := by decide +kernel
theorem dX10_moveRecord_123 : decode cX10_moveRecord 123 = .ok (.aload_n 0, 1) := by decide +kernel
theorem dX10_moveRecord_124 : decode cX10_moveRecord 124 = .ok (.getfield 9, 3) := by decide +kernel
theorem dX10_moveRecord_127 : decode cX10_moveRecord 127 = .ok (.sipush 139, 3) := by decide +kernel
theorem dX10_moveRecord_130 : decode cX10_moveRecord 130 = .ok (.bipush 67, 2) := by decide +kernel
theorem dX10_moveRecord_132 : decode cX10_moveRecord 132 = .ok (.iload_n 2, 1) := by decide +kernel
theorem dX10_moveRecord_133 : decode cX10_moveRecord 133 = .ok (.imul, 1) := by decide +kernel
theorem dX10_moveRecord_134 : decode cX10_moveRecord 134 = .ok (.iadd, 1) := by decide +kernel
theorem dX10_moveRecord_135 : decode cX10_moveRecord 135 = .ok (.iload_n 3, 1) := by decide +kernel
theorem dX10_moveRecord_136 : decode cX10_moveRecord 136 = .ok (.iadd, 1) := by decide +kernel
theorem dX10_moveRecord_137 : decode cX10_moveRecord 137 = .ok (.aload_n 0, 1) := by decide +kernel
theorem dX10_moveRecord_138 : decode cX10_moveRecord 138 = .ok (.getfield 20, 3) := by decide +kernel
theorem dX10_moveRecord_141 : decode cX10_moveRecord 141 = .ok (.iload_n 3, 1) := by decide +kernel
theorem dX10_moveRecord_142 : decode cX10_moveRecord 142 = .ok (.iaload, 1) := by decide +kernel
theorem dX10_moveRecord_143 : decode cX10_moveRecord 143 = .ok (.iastore, 1) := by decide +kernel
theorem dX10_moveRecord_144 : decode cX10_moveRecord 144 = .ok (.iinc 3 1, 3) := by decide +kernel
theorem dX10_moveRecord_147 : decode cX10_moveRecord 147 = .ok (.goto (-30), 3) := by decide +kernel
theorem dX10_moveRecord_150 : decode cX10_moveRecord 150 = .ok (.iload_n 1, 1) := by decide +kernel
theorem dX10_moveRecord_151 : decode cX10_moveRecord 151 = .ok (.iload_n 2, 1) := by decide +kernel
theorem dX10_moveRecord_152 : decode cX10_moveRecord 152 = .ok (.if_icmp .ne 7, 3) := by decide +kernel
theorem dX10_moveRecord_155 : decode cX10_moveRecord 155 = .ok (.iconst 0, 1) := by decide +kernel
theorem dX10_moveRecord_156 : decode cX10_moveRecord 156 = .ok (.goto 21, 3) := by decide +kernel
theorem dX10_moveRecord_159 : decode cX10_moveRecord 159 = .ok (.iload_n 1, 1) := by decide +kernel
theorem dX10_moveRecord_160 : decode cX10_moveRecord 160 = .ok (.iload_n 2, 1) := by decide +kernel
theorem dX10_moveRecord_161 : decode cX10_moveRecord 161 = .ok (.if_icmp .ge 11, 3) := by decide +kernel
theorem dX10_moveRecord_164 : decode cX10_moveRecord 164 = .ok (.iload_n 2, 1) := by decide +kernel
theorem dX10_moveRecord_165 : decode cX10_moveRecord 165 = .ok (.iload_n 1, 1) := by decide +kernel
theorem dX10_moveRecord_166 : decode cX10_moveRecord 166 = .ok (.isub, 1) := by decide +kernel
theorem dX10_moveRecord_167 : decode cX10_moveRecord 167 = .ok (.iconst 1, 1) := by decide +kernel
theorem dX10_moveRecord_168 : decode cX10_moveRecord 168 = .ok (.iadd, 1) := by decide +kernel
theorem dX10_moveRecord_169 : decode cX10_moveRecord 169 = .ok (.goto 8, 3) := by decide +kernel
theorem dX10_moveRecord_172 : decode cX10_moveRecord 172 = .ok (.iload_n 1, 1) := by decide +kernel
theorem dX10_moveRecord_173 : decode cX10_moveRecord 173 = .ok (.iload_n 2, 1) := by decide +kernel
theorem dX10_moveRecord_174 : decode cX10_moveRecord 174 = .ok (.isub, 1) := by decide +kernel
theorem dX10_moveRecord_175 : decode cX10_moveRecord 175 = .ok (.iconst 1, 1) := by decide +kernel
theorem dX10_moveRecord_176 : decode cX10_moveRecord 176 = .ok (.iadd, 1) := by decide +kernel
theorem dX10_moveRecord_177 : decode cX10_moveRecord 177 = .ok (.ireturn, 1) := by decide +kernel
theorem dX10_capital_0 : decode cX10_capital 0 = .ok (.iload_n 0, 1) := by decide +kernel
theorem dX10_capital_1 : decode cX10_capital 1 = .ok (.bipush 97, 2) := by decide +kernel
theorem dX10_capital_3 : decode cX10_capital 3 = .ok (.bipush 122, 2) := by decide +kernel
theorem dX10_capital_5 : decode cX10_capital 5 = .ok (.invokestatic 88, 3) := by decide +kernel
theorem dX10_capital_8 : decode cX10_capital 8 = .ok (.ifCond .eq 10, 3) := by decide +kernel
theorem dX10_capital_11 : decode cX10_capital 11 = .ok (.iload_n 0, 1) := by decide +kernel
theorem dX10_capital_12 : decode cX10_capital 12 = .ok (.bipush 32, 2) := by decide +kernel
theorem dX10_capital_14 : decode cX10_capital 14 = .ok (.isub, 1) := by decide +kernel
theorem dX10_capital_15 : decode cX10_capital 15 = .ok (.goto 4, 3) := by decide +kernel
theorem dX10_capital_18 : decode cX10_capital 18 = .ok (.iload_n 0, 1) := by decide +kernel
theorem dX10_capital_19 : decode cX10_capital 19 = .ok (.ireturn, 1) := by decide +kernel
theorem dX10_compares_0 : decode cX10_compares 0 = .ok (.iconst 0, 1) := by decide +kernel
theorem dX10_compares_1 : decode cX10_compares 1 = .ok (.istore 4, 2) := by decide +kernel
theorem dX10_compares_3 : decode cX10_compares 3 = .ok (.iload 4, 2) := by decide +kernel
theorem dX10_compares_5 : decode cX10_compares 5 = .ok (.aload_n 0, 1) := by decide +kernel
theorem dX10_compares_6 : decode cX10_compares 6 = .ok (.iload_n 1, 1) := by decide +kernel
theorem dX10_compares_7 : decode cX10_compares 7 = .ok (.iload_n 3, 1) := by decide +kernel
theorem dX10_compares_8 : decode cX10_compares 8 = .ok (.invokevirtual 109, 3) := by decide +kernel
theorem dX10_compares_11 : decode cX10_compares 11 = .ok (.if_icmp .ge 53, 3) := by decide +kernel
theorem dX10_compares_14 : decode cX10_compares 14 = .ok (.iload 4, 2) := by decide +kernel
theorem dX10_compares_16 : decode cX10_compares 16 = .ok (.aload_n 0, 1) := by decide +kernel
theorem dX10_compares_17 : decode cX10_compares 17 = .ok (.iload_n 2, 1) := by decide +kernel
theorem dX10_compares_18 : decode cX10_compares 18 = .ok (.iload_n 3, 1) := by decide +kernel
theorem dX10_compares_19 : decode cX10_compares 19 = .ok (.invokevirtual 109, 3) := by decide +kernel
theorem dX10_compares_22 : decode cX10_compares 22 = .ok (.if_icmp .ge 42, 3) := by decide +kernel
theorem dX10_compares_25 : decode cX10_compares 25 = .ok (.aload_n 0, 1) := by decide +kernel
theorem dX10_compares_26 : decode cX10_compares 26 = .ok (.iload_n 1, 1) := by decide +kernel
theorem dX10_compares_27 : decode cX10_compares 27 = .ok (.iload_n 3, 1) := by decide +kernel
theorem dX10_compares_28 : decode cX10_compares 28 = .ok (.iload 4, 2) := by decide +kernel
theorem dX10_compares_30 : decode cX10_compares 30 = .ok (.invokevirtual 113, 3) := by decide +kernel
theorem dX10_compares_33 : decode cX10_compares 33 = .ok (.invokestatic 117, 3) := by decide +kernel
theorem dX10_compares_36 : decode cX10_compares 36 = .ok (.aload_n 0, 1) := by decide +kernel
theorem dX10_compares_37 : decode cX10_compares 37 = .ok (.iload_n 2, 1) := by decide +kernel
theorem dX10_compares_38 : decode cX10_compares 38 = .ok (.iload_n 3, 1) := by decide +kernel
theorem dX10_compares_39 : decode cX10_compares 39 = .ok (.iload 4, 2) := by decide +kernel
theorem dX10_compares_41 : decode cX10_compares 41 = .ok (.invokevirtual 113, 3) := by decide +kernel
theorem dX10_compares_44 : decode cX10_compares 44 = .ok (.invokestatic 117, 3) := by decide +kernel
theorem dX10_compares_47 : decode cX10_compares 47 = .ok (.isub, 1) := by decide +kernel
theorem dX10_compares_48 : decode cX10_compares 48 = .ok (.istore 5, 2) := by decide +kernel
theorem dX10_compares_50 : decode cX10_compares 50 = .ok (.iload 5, 2) := by decide +kernel
theorem dX10_compares_52 : decode cX10_compares 52 = .ok (.ifCond .eq 6, 3) := by decide +kernel
theorem dX10_compares_55 : decode cX10_compares 55 = .ok (.iload 5, 2) := by decide +kernel
theorem dX10_compares_57 : decode cX10_compares 57 = .ok (.ireturn, 1) := by decide +kernel
theorem dX10_compares_58 : decode cX10_compares 58 = .ok (.iinc 4 1, 3) := by decide +kernel
theorem dX10_compares_61 : decode cX10_compares 61 = .ok (.goto (-58), 3) := by decide +kernel
theorem dX10_compares_64 : decode cX10_compares 64 = .ok (.aload_n 0, 1) := by decide +kernel
theorem dX10_compares_65 : decode cX10_compares 65 = .ok (.iload_n 1, 1) := by decide +kernel
theorem dX10_compares_66 : decode cX10_compares 66 = .ok (.iload_n 3, 1) := by decide +kernel
theorem dX10_compares_67 : decode cX10_compares 67 = .ok (.invokevirtual 109, 3) := by decide +kernel
theorem dX10_compares_70 : decode cX10_compares 70 = .ok (.aload_n 0, 1) := by decide +kernel
theorem dX10_compares_71 : decode cX10_compares 71 = .ok (.iload_n 2, 1) := by decide +kernel
theorem dX10_compares_72 : decode cX10_compares 72 = .ok (.iload_n 3, 1) := by decide +kernel
theorem dX10_compares_73 : decode cX10_compares 73 = .ok (.invokevirtual 109, 3) := by decide +kernel
theorem dX10_compares_76 : decode cX10_compares 76 = .ok (.isub, 1) := by decide +kernel
theorem dX10_compares_77 : decode cX10_compares 77 = .ok (.ireturn, 1) := by decide +kernel
theorem dX10_comesAhead_0 : decode cX10_comesAhead 0 = .ok (.aload_n 0, 1) := by decide +kernel
theorem dX10_comesAhead_1 : decode cX10_comesAhead 1 = .ok (.iload_n 1, 1) := by decide +kernel
theorem dX10_comesAhead_2 : decode cX10_comesAhead 2 = .ok (.iload_n 3, 1) := by decide +kernel
theorem dX10_comesAhead_3 : decode cX10_comesAhead 3 = .ok (.invokevirtual 109, 3) := by decide +kernel
theorem dX10_comesAhead_6 : decode cX10_comesAhead 6 = .ok (.ifCond .eq 12, 3) := by decide +kernel
theorem dX10_comesAhead_9 : decode cX10_comesAhead 9 = .ok (.aload_n 0, 1) := by decide +kernel
theorem dX10_comesAhead_10 : decode cX10_comesAhead 10 = .ok (.iload_n 2, 1) := by decide +kernel
theorem dX10_comesAhead_11 : decode cX10_comesAhead 11 = .ok (.iload_n 3, 1) := by decide +kernel
theorem dX10_comesAhead_12 : decode cX10_comesAhead 12 = .ok (.invokevirtual 109, 3) := by decide +kernel
theorem dX10_comesAhead_15 : decode cX10_comesAhead 15 = .ok (.ifCond .ne 27, 3) := by decide +kernel
theorem dX10_comesAhead_18 : decode cX10_comesAhead 18 = .ok (.aload_n 0, 1) := by decide +kernel
theorem dX10_comesAhead_19 : decode cX10_comesAhead 19 = .ok (.iload_n 1, 1) := by decide +kernel
theorem dX10_comesAhead_20 : decode cX10_comesAhead 20 = .ok (.iload_n 3, 1) := by decide +kernel
theorem dX10_comesAhead_21 : decode cX10_comesAhead 21 = .ok (.invokevirtual 109, 3) := by decide +kernel
theorem dX10_comesAhead_24 : decode cX10_comesAhead 24 = .ok (.ifCond .le 16, 3) := by decide +kernel
theorem dX10_comesAhead_27 : decode cX10_comesAhead 27 = .ok (.aload_n 0, 1) := by decide +kernel
theorem dX10_comesAhead_28 : decode cX10_comesAhead 28 = .ok (.iload_n 2, 1) := by decide +kernel
theorem dX10_comesAhead_29 : decode cX10_comesAhead 29 = .ok (.iload_n 3, 1) := by decide +kernel
theorem dX10_comesAhead_30 : decode cX10_comesAhead 30 = .ok (.invokevirtual 109, 3) := by decide +kernel
theorem dX10_comesAhead_33 : decode cX10_comesAhead 33 = .ok (.ifCond .ne 7, 3) := by decide +kernel
theorem dX10_comesAhead_36 : decode cX10_comesAhead 36 = .ok (.iconst 1, 1) := by decide +kernel
theorem dX10_comesAhead_37 : decode cX10_comesAhead 37 = .ok (.goto 4, 3) := by decide +kernel
theorem dX10_comesAhead_40 : decode cX10_comesAhead 40 = .ok (.iconst 0, 1) := by decide +kernel
theorem dX10_comesAhead_41 : decode cX10_comesAhead 41 = .ok (.ireturn, 1) := by decide +kernel
theorem dX10_comesAhead_42 : decode cX10_comesAhead 42 = .ok (.aload_n 0, 1) := by decide +kernel
theorem dX10_comesAhead_43 : decode cX10_comesAhead 43 = .ok (.iload_n 1, 1) := by decide +kernel
theorem dX10_comesAhead_44 : decode cX10_comesAhead 44 = .ok (.iload_n 2, 1) := by decide +kernel
theorem dX10_comesAhead_45 : decode cX10_comesAhead 45 = .ok (.iload_n 3, 1) := by decide +kernel
theorem dX10_comesAhead_46 : decode cX10_comesAhead 46 = .ok (.invokevirtual 120, 3) := by decide +kernel
theorem dX10_comesAhead_49 : decode cX10_comesAhead 49 = .ok (.istore 5, 2) := by decide +kernel
theorem dX10_comesAhead_51 : decode cX10_comesAhead 51 = .ok (.iload 4, 2) := by decide +kernel
theorem dX10_comesAhead_53 : decode cX10_comesAhead 53 = .ok (.ifCond .eq 16, 3) := by decide +kernel
theorem dX10_comesAhead_56 : decode cX10_comesAhead 56 = .ok (.iload 5, 2) := by decide +kernel
theorem dX10_comesAhead_58 : decode cX10_comesAhead 58 = .ok (.ifCond .le 7, 3) := by decide +kernel
theorem dX10_comesAhead_61 : decode cX10_comesAhead 61 = .ok (.iconst 1, 1) := by decide +kernel
theorem dX10_comesAhead_62 : decode cX10_comesAhead 62 = .ok (.goto 17, 3) := by decide +kernel
theorem dX10_comesAhead_65 : decode cX10_comesAhead 65 = .ok (.iconst 0, 1) := by decide +kernel
theorem dX10_comesAhead_66 : decode cX10_comesAhead 66 = .ok (.goto 13, 3) := by decide +kernel
theorem dX10_comesAhead_69 : decode cX10_comesAhead 69 = .ok (.iload 5, 2) := by decide +kernel
theorem dX10_comesAhead_71 : decode cX10_comesAhead 71 = .ok (.ifCond .ge 7, 3) := by decide +kernel
theorem dX10_comesAhead_74 : decode cX10_comesAhead 74 = .ok (.iconst 1, 1) := by decide +kernel
theorem dX10_comesAhead_75 : decode cX10_comesAhead 75 = .ok (.goto 4, 3) := by decide +kernel
theorem dX10_comesAhead_78 : decode cX10_comesAhead 78 = .ok (.iconst 0, 1) := by decide +kernel
theorem dX10_comesAhead_79 : decode cX10_comesAhead 79 = .ok (.ireturn, 1) := by decide +kernel
theorem dX10_sort_0 : decode cX10_sort 0 = .ok (.aload_n 0, 1) := by decide +kernel
theorem dX10_sort_1 : decode cX10_sort 1 = .ok (.iload_n 1, 1) := by decide +kernel
theorem dX10_sort_2 : decode cX10_sort 2 = .ok (.iconst 0, 1) := by decide +kernel
theorem dX10_sort_3 : decode cX10_sort 3 = .ok (.iconst 4, 1) := by decide +kernel
theorem dX10_sort_4 : decode cX10_sort 4 = .ok (.invokestatic 88, 3) := by decide +kernel
theorem dX10_sort_7 : decode cX10_sort 7 = .ok (.ifCond .eq 7, 3) := by decide +kernel
theorem dX10_sort_10 : decode cX10_sort 10 = .ok (.iconst 0, 1) := by decide +kernel
theorem dX10_sort_11 : decode cX10_sort 11 = .ok (.goto 4, 3) := by decide +kernel
theorem dX10_sort_14 : decode cX10_sort 14 = .ok (.iconst 1, 1) := by decide +kernel
theorem dX10_sort_15 : decode cX10_sort 15 = .ok (.putfield 78, 3) := by decide +kernel
theorem dX10_sort_18 : decode cX10_sort 18 = .ok (.aload_n 0, 1) := by decide +kernel
theorem dX10_sort_19 : decode cX10_sort 19 = .ok (.getfield 78, 3) := by decide +kernel
theorem dX10_sort_22 : decode cX10_sort 22 = .ok (.ifCond .eq 5, 3) := by decide +kernel
theorem dX10_sort_25 : decode cX10_sort 25 = .ok (.iconst 0, 1) := by decide +kernel
theorem dX10_sort_26 : decode cX10_sort 26 = .ok (.ireturn, 1) := by decide +kernel
theorem dX10_sort_27 : decode cX10_sort 27 = .ok (.aload_n 0, 1) := by decide +kernel
theorem dX10_sort_28 : decode cX10_sort 28 = .ok (.invokevirtual 99, 3) := by decide +kernel
theorem dX10_sort_31 : decode cX10_sort 31 = .ok (.iconst 0, 1) := by decide +kernel
theorem dX10_sort_32 : decode cX10_sort 32 = .ok (.istore_n 3, 1) := by decide +kernel
theorem dX10_sort_33 : decode cX10_sort 33 = .ok (.iload_n 3, 1) := by decide +kernel
theorem dX10_sort_34 : decode cX10_sort 34 = .ok (.aload_n 0, 1) := by decide +kernel
theorem dX10_sort_35 : decode cX10_sort 35 = .ok (.getfield 9, 3) := by decide +kernel
theorem dX10_sort_38 : decode cX10_sort 38 = .ok (.iconst 0, 1) := by decide +kernel
theorem dX10_sort_39 : decode cX10_sort 39 = .ok (.iaload, 1) := by decide +kernel
theorem dX10_sort_40 : decode cX10_sort 40 = .ok (.if_icmp .ge 66, 3) := by decide +kernel
theorem dX10_sort_43 : decode cX10_sort 43 = .ok (.iload_n 3, 1) := by decide +kernel
theorem dX10_sort_44 : decode cX10_sort 44 = .ok (.istore 4, 2) := by decide +kernel
theorem dX10_sort_46 : decode cX10_sort 46 = .ok (.iload 4, 2) := by decide +kernel
theorem dX10_sort_48 : decode cX10_sort 48 = .ok (.ifCond .le 44, 3) := by decide +kernel
theorem dX10_sort_51 : decode cX10_sort 51 = .ok (.aload_n 0, 1) := by decide +kernel
theorem dX10_sort_52 : decode cX10_sort 52 = .ok (.iload_n 3, 1) := by decide +kernel
theorem dX10_sort_53 : decode cX10_sort 53 = .ok (.aload_n 0, 1) := by decide +kernel
theorem dX10_sort_54 : decode cX10_sort 54 = .ok (.getfield 23, 3) := by decide +kernel
theorem dX10_sort_57 : decode cX10_sort 57 = .ok (.iload 4, 2) := by decide +kernel
theorem dX10_sort_59 : decode cX10_sort 59 = .ok (.iconst 1, 1) := by decide +kernel
theorem dX10_sort_60 : decode cX10_sort 60 = .ok (.isub, 1) := by decide +kernel
theorem dX10_sort_61 : decode cX10_sort 61 = .ok (.iaload, 1) := by decide +kernel
theorem dX10_sort_62 : decode cX10_sort 62 = .ok (.iload_n 1, 1) := by decide +kernel
theorem dX10_sort_63 : decode cX10_sort 63 = .ok (.iload_n 2, 1) := by decide +kernel
theorem dX10_sort_64 : decode cX10_sort 64 = .ok (.invokevirtual 123, 3) := by decide +kernel
theorem dX10_sort_67 : decode cX10_sort 67 = .ok (.ifCond .eq 25, 3) := by decide +kernel
theorem dX10_sort_70 : decode cX10_sort 70 = .ok (.aload_n 0, 1) := by decide +kernel
theorem dX10_sort_71 : decode cX10_sort 71 = .ok (.getfield 23, 3) := by decide +kernel
theorem dX10_sort_74 : decode cX10_sort 74 = .ok (.iload 4, 2) := by decide +kernel
theorem dX10_sort_76 : decode cX10_sort 76 = .ok (.aload_n 0, 1) := by decide +kernel
theorem dX10_sort_77 : decode cX10_sort 77 = .ok (.getfield 23, 3) := by decide +kernel
theorem dX10_sort_80 : decode cX10_sort 80 = .ok (.iload 4, 2) := by decide +kernel
theorem dX10_sort_82 : decode cX10_sort 82 = .ok (.iconst 1, 1) := by decide +kernel
theorem dX10_sort_83 : decode cX10_sort 83 = .ok (.isub, 1) := by decide +kernel
theorem dX10_sort_84 : decode cX10_sort 84 = .ok (.iaload, 1) := by decide +kernel
theorem dX10_sort_85 : decode cX10_sort 85 = .ok (.iastore, 1) := by decide +kernel
theorem dX10_sort_86 : decode cX10_sort 86 = .ok (.iinc 4 (-1), 3) := by decide +kernel
theorem dX10_sort_89 : decode cX10_sort 89 = .ok (.goto (-43), 3) := by decide +kernel
theorem dX10_sort_92 : decode cX10_sort 92 = .ok (.aload_n 0, 1) := by decide +kernel
theorem dX10_sort_93 : decode cX10_sort 93 = .ok (.getfield 23, 3) := by decide +kernel
theorem dX10_sort_96 : decode cX10_sort 96 = .ok (.iload 4, 2) := by decide +kernel
theorem dX10_sort_98 : decode cX10_sort 98 = .ok (.iload_n 3, 1) := by decide +kernel
theorem dX10_sort_99 : decode cX10_sort 99 = .ok (.iastore, 1) := by decide +kernel
theorem dX10_sort_100 : decode cX10_sort 100 = .ok (.iinc 3 1, 3) := by decide +kernel
theorem dX10_sort_103 : decode cX10_sort 103 = .ok (.goto (-70), 3) := by decide +kernel
theorem dX10_sort_106 : decode cX10_sort 106 = .ok (.iconst 0, 1) := by decide +kernel
theorem dX10_sort_107 : decode cX10_sort 107 = .ok (.istore_n 3, 1) := by decide +kernel
theorem dX10_sort_108 : decode cX10_sort 108 = .ok (.iconst 0, 1) := by decide +kernel
theorem dX10_sort_109 : decode cX10_sort 109 = .ok (.istore 4, 2) := by decide +kernel
theorem dX10_sort_111 : decode cX10_sort 111 = .ok (.iload 4, 2) := by decide +kernel
theorem dX10_sort_113 : decode cX10_sort 113 = .ok (.aload_n 0, 1) := by decide +kernel
theorem dX10_sort_114 : decode cX10_sort 114 = .ok (.getfield 9, 3) := by decide +kernel
theorem dX10_sort_117 : decode cX10_sort 117 = .ok (.iconst 0, 1) := by decide +kernel
theorem dX10_sort_118 : decode cX10_sort 118 = .ok (.iaload, 1) := by decide +kernel
theorem dX10_sort_119 : decode cX10_sort 119 = .ok (.if_icmp .ge 80, 3) := by decide +kernel
theorem dX10_sort_122 : decode cX10_sort 122 = .ok (.iload_n 3, 1) := by decide +kernel
theorem dX10_sort_123 : decode cX10_sort 123 = .ok (.aload_n 0, 1) := by decide +kernel
theorem dX10_sort_124 : decode cX10_sort 124 = .ok (.getfield 23, 3) := by decide +kernel
theorem dX10_sort_127 : decode cX10_sort 127 = .ok (.iload 4, 2) := by decide +kernel
theorem dX10_sort_129 : decode cX10_sort 129 = .ok (.iaload, 1) := by decide +kernel
theorem dX10_sort_130 : decode cX10_sort 130 = .ok (.iload 4, 2) := by decide +kernel
theorem dX10_sort_132 : decode cX10_sort 132 = .ok (.if_icmp .ne 7, 3) := by decide +kernel
theorem dX10_sort_135 : decode cX10_sort 135 = .ok (.iconst 0, 1) := by decide +kernel
theorem dX10_sort_136 : decode cX10_sort 136 = .ok (.goto 4, 3) := by decide +kernel
theorem dX10_sort_139 : decode cX10_sort 139 = .ok (.iconst 1, 1) := by decide +kernel
theorem dX10_sort_140 : decode cX10_sort 140 = .ok (.iadd, 1) := by decide +kernel
theorem dX10_sort_141 : decode cX10_sort 141 = .ok (.istore_n 3, 1) := by decide +kernel
theorem dX10_sort_142 : decode cX10_sort 142 = .ok (.iconst 0, 1) := by decide +kernel
theorem dX10_sort_143 : decode cX10_sort 143 = .ok (.istore 5, 2) := by decide +kernel
theorem dX10_sort_145 : decode cX10_sort 145 = .ok (.iload 5, 2) := by decide +kernel
theorem dX10_sort_147 : decode cX10_sort 147 = .ok (.bipush 67, 2) := by decide +kernel
theorem dX10_sort_149 : decode cX10_sort 149 = .ok (.if_icmp .ge 44, 3) := by decide +kernel
theorem dX10_sort_152 : decode cX10_sort 152 = .ok (.aload_n 0, 1) := by decide +kernel
theorem dX10_sort_153 : decode cX10_sort 153 = .ok (.getfield 26, 3) := by decide +kernel
theorem dX10_sort_156 : decode cX10_sort 156 = .ok (.bipush 67, 2) := by decide +kernel
theorem dX10_sort_158 : decode cX10_sort 158 = .ok (.iload 4, 2) := by decide +kernel
theorem dX10_sort_160 : decode cX10_sort 160 = .ok (.imul, 1) := by decide +kernel
theorem dX10_sort_161 : decode cX10_sort 161 = .ok (.iload 5, 2) := by decide +kernel
theorem dX10_sort_163 : decode cX10_sort 163 = .ok (.iadd, 1) := by decide +kernel
theorem dX10_sort_164 : decode cX10_sort 164 = .ok (.aload_n 0, 1) := by decide +kernel
theorem dX10_sort_165 : decode cX10_sort 165 = .ok (.getfield 9, 3) := by decide +kernel
theorem dX10_sort_168 : decode cX10_sort 168 = .ok (.sipush 139, 3) := by decide +kernel
theorem dX10_sort_171 : decode cX10_sort 171 = .ok (.bipush 67, 2) := by decide +kernel
theorem dX10_sort_173 : decode cX10_sort 173 = .ok (.aload_n 0, 1) := by decide +kernel
theorem dX10_sort_174 : decode cX10_sort 174 = .ok (.getfield 23, 3) := by decide +kernel
theorem dX10_sort_177 : decode cX10_sort 177 = .ok (.iload 4, 2) := by decide +kernel
theorem dX10_sort_179 : decode cX10_sort 179 = .ok (.iaload, 1) := by decide +kernel
theorem dX10_sort_180 : decode cX10_sort 180 = .ok (.imul, 1) := by decide +kernel
theorem dX10_sort_181 : decode cX10_sort 181 = .ok (.iadd, 1) := by decide +kernel
theorem dX10_sort_182 : decode cX10_sort 182 = .ok (.iload 5, 2) := by decide +kernel
theorem dX10_sort_184 : decode cX10_sort 184 = .ok (.iadd, 1) := by decide +kernel
theorem dX10_sort_185 : decode cX10_sort 185 = .ok (.iaload, 1) := by decide +kernel
theorem dX10_sort_186 : decode cX10_sort 186 = .ok (.iastore, 1) := by decide +kernel
theorem dX10_sort_187 : decode cX10_sort 187 = .ok (.iinc 5 1, 3) := by decide +kernel
theorem dX10_sort_190 : decode cX10_sort 190 = .ok (.goto (-45), 3) := by decide +kernel
theorem dX10_sort_193 : decode cX10_sort 193 = .ok (.iinc 4 1, 3) := by decide +kernel
theorem dX10_sort_196 : decode cX10_sort 196 = .ok (.goto (-85), 3) := by decide +kernel
theorem dX10_sort_199 : decode cX10_sort 199 = .ok (.iconst 0, 1) := by decide +kernel
theorem dX10_sort_200 : decode cX10_sort 200 = .ok (.istore 4, 2) := by decide +kernel
theorem dX10_sort_202 : decode cX10_sort 202 = .ok (.iload 4, 2) := by decide +kernel
theorem dX10_sort_204 : decode cX10_sort 204 = .ok (.bipush 67, 2) := by decide +kernel
theorem dX10_sort_206 : decode cX10_sort 206 = .ok (.aload_n 0, 1) := by decide +kernel
theorem dX10_sort_207 : decode cX10_sort 207 = .ok (.getfield 9, 3) := by decide +kernel
theorem dX10_sort_210 : decode cX10_sort 210 = .ok (.iconst 0, 1) := by decide +kernel
theorem dX10_sort_211 : decode cX10_sort 211 = .ok (.iaload, 1) := by decide +kernel
theorem dX10_sort_212 : decode cX10_sort 212 = .ok (.imul, 1) := by decide +kernel
theorem dX10_sort_213 : decode cX10_sort 213 = .ok (.if_icmp .ge 27, 3) := by decide +kernel
theorem dX10_sort_216 : decode cX10_sort 216 = .ok (.aload_n 0, 1) := by decide +kernel
theorem dX10_sort_217 : decode cX10_sort 217 = .ok (.getfield 9, 3) := by decide +kernel
theorem dX10_sort_220 : decode cX10_sort 220 = .ok (.sipush 139, 3) := by decide +kernel
theorem dX10_sort_223 : decode cX10_sort 223 = .ok (.iload 4, 2) := by decide +kernel
theorem dX10_sort_225 : decode cX10_sort 225 = .ok (.iadd, 1) := by decide +kernel
theorem dX10_sort_226 : decode cX10_sort 226 = .ok (.aload_n 0, 1) := by decide +kernel
theorem dX10_sort_227 : decode cX10_sort 227 = .ok (.getfield 26, 3) := by decide +kernel
theorem dX10_sort_230 : decode cX10_sort 230 = .ok (.iload 4, 2) := by decide +kernel
theorem dX10_sort_232 : decode cX10_sort 232 = .ok (.iaload, 1) := by decide +kernel
theorem dX10_sort_233 : decode cX10_sort 233 = .ok (.iastore, 1) := by decide +kernel
theorem dX10_sort_234 : decode cX10_sort 234 = .ok (.iinc 4 1, 3) := by decide +kernel
theorem dX10_sort_237 : decode cX10_sort 237 = .ok (.goto (-35), 3) := by decide +kernel
theorem dX10_sort_240 : decode cX10_sort 240 = .ok (.iload_n 3, 1) := by decide +kernel
theorem dX10_sort_241 : decode cX10_sort 241 = .ok (.ireturn, 1) := by decide +kernel
theorem dX10_setField_0 : decode cX10_setField 0 = .ok (.aload_n 0, 1) := by decide +kernel
theorem dX10_setField_1 : decode cX10_setField 1 = .ok (.aload_n 0, 1) := by decide +kernel
theorem dX10_setField_2 : decode cX10_setField 2 = .ok (.iload_n 1, 1) := by decide +kernel
theorem dX10_setField_3 : decode cX10_setField 3 = .ok (.invokevirtual 102, 3) := by decide +kernel
theorem dX10_setField_6 : decode cX10_setField 6 = .ok (.ifCond .eq 16, 3) := by decide +kernel
theorem dX10_setField_9 : decode cX10_setField 9 = .ok (.iload_n 2, 1) := by decide +kernel
theorem dX10_setField_10 : decode cX10_setField 10 = .ok (.iconst 0, 1) := by decide +kernel
theorem dX10_setField_11 : decode cX10_setField 11 = .ok (.iconst 4, 1) := by decide +kernel
theorem dX10_setField_12 : decode cX10_setField 12 = .ok (.invokestatic 88, 3) := by decide +kernel
theorem dX10_setField_15 : decode cX10_setField 15 = .ok (.ifCond .eq 7, 3) := by decide +kernel
theorem dX10_setField_18 : decode cX10_setField 18 = .ok (.iconst 0, 1) := by decide +kernel
theorem dX10_setField_19 : decode cX10_setField 19 = .ok (.goto 4, 3) := by decide +kernel
theorem dX10_setField_22 : decode cX10_setField 22 = .ok (.iconst 1, 1) := by decide +kernel
theorem dX10_setField_23 : decode cX10_setField 23 = .ok (.putfield 78, 3) := by decide +kernel
theorem dX10_setField_26 : decode cX10_setField 26 = .ok (.aload_n 0, 1) := by decide +kernel
theorem dX10_setField_27 : decode cX10_setField 27 = .ok (.getfield 78, 3) := by decide +kernel
theorem dX10_setField_30 : decode cX10_setField 30 = .ok (.ifCond .eq 5, 3) := by decide +kernel
theorem dX10_setField_33 : decode cX10_setField 33 = .ok (.iconst 0, 1) := by decide +kernel
theorem dX10_setField_34 : decode cX10_setField 34 = .ok (.ireturn, 1) := by decide +kernel
theorem dX10_setField_35 : decode cX10_setField 35 = .ok (.aload_n 0, 1) := by decide +kernel
theorem dX10_setField_36 : decode cX10_setField 36 = .ok (.invokevirtual 127, 3) := by decide +kernel
theorem dX10_setField_39 : decode cX10_setField 39 = .ok (.istore_n 3, 1) := by decide +kernel
theorem dX10_setField_40 : decode cX10_setField 40 = .ok (.aload_n 0, 1) := by decide +kernel
theorem dX10_setField_41 : decode cX10_setField 41 = .ok (.getfield 96, 3) := by decide +kernel
theorem dX10_setField_44 : decode cX10_setField 44 = .ok (.istore 4, 2) := by decide +kernel
theorem dX10_setField_46 : decode cX10_setField 46 = .ok (.aload_n 0, 1) := by decide +kernel
theorem dX10_setField_47 : decode cX10_setField 47 = .ok (.iconst 0, 1) := by decide +kernel
theorem dX10_setField_48 : decode cX10_setField 48 = .ok (.putfield 96, 3) := by decide +kernel
theorem dX10_setField_51 : decode cX10_setField 51 = .ok (.iload_n 3, 1) := by decide +kernel
theorem dX10_setField_52 : decode cX10_setField 52 = .ok (.ifCond .lt 15, 3) := by decide +kernel
theorem dX10_setField_55 : decode cX10_setField 55 = .ok (.aload_n 0, 1) := by decide +kernel
theorem dX10_setField_56 : decode cX10_setField 56 = .ok (.iload_n 3, 1) := by decide +kernel
theorem dX10_setField_57 : decode cX10_setField 57 = .ok (.putfield 16, 3) := by decide +kernel
theorem dX10_setField_60 : decode cX10_setField 60 = .ok (.aload_n 0, 1) := by decide +kernel
theorem dX10_setField_61 : decode cX10_setField 61 = .ok (.iconst 2, 1) := by decide +kernel
theorem dX10_setField_62 : decode cX10_setField 62 = .ok (.putfield 78, 3) := by decide +kernel
theorem dX10_setField_65 : decode cX10_setField 65 = .ok (.iconst 0, 1) := by decide +kernel
theorem dX10_setField_66 : decode cX10_setField 66 = .ok (.ireturn, 1) := by decide +kernel
theorem dX10_setField_67 : decode cX10_setField 67 = .ok (.aload_n 0, 1) := by decide +kernel
theorem dX10_setField_68 : decode cX10_setField 68 = .ok (.invokevirtual 99, 3) := by decide +kernel
theorem dX10_setField_71 : decode cX10_setField 71 = .ok (.aload_n 0, 1) := by decide +kernel
theorem dX10_setField_72 : decode cX10_setField 72 = .ok (.iload_n 1, 1) := by decide +kernel
theorem dX10_setField_73 : decode cX10_setField 73 = .ok (.iload_n 2, 1) := by decide +kernel
theorem dX10_setField_74 : decode cX10_setField 74 = .ok (.invokevirtual 109, 3) := by decide +kernel
theorem dX10_setField_77 : decode cX10_setField 77 = .ok (.istore 5, 2) := by decide +kernel
theorem dX10_setField_79 : decode cX10_setField 79 = .ok (.sipush 139, 3) := by decide +kernel
theorem dX10_setField_82 : decode cX10_setField 82 = .ok (.bipush 67, 2) := by decide +kernel
theorem dX10_setField_84 : decode cX10_setField 84 = .ok (.iload_n 1, 1) := by decide +kernel
theorem dX10_setField_85 : decode cX10_setField 85 = .ok (.imul, 1) := by decide +kernel
theorem dX10_setField_86 : decode cX10_setField 86 = .ok (.iadd, 1) := by decide +kernel
theorem dX10_setField_87 : decode cX10_setField 87 = .ok (.istore 6, 2) := by decide +kernel
theorem dX10_setField_89 : decode cX10_setField 89 = .ok (.aload_n 0, 1) := by decide +kernel
theorem dX10_setField_90 : decode cX10_setField 90 = .ok (.getfield 9, 3) := by decide +kernel
theorem dX10_setField_93 : decode cX10_setField 93 = .ok (.iload 6, 2) := by decide +kernel
theorem dX10_setField_95 : decode cX10_setField 95 = .ok (.iconst 2, 1) := by decide +kernel
theorem dX10_setField_96 : decode cX10_setField 96 = .ok (.iadd, 1) := by decide +kernel
theorem dX10_setField_97 : decode cX10_setField 97 = .ok (.iload_n 2, 1) := by decide +kernel
theorem dX10_setField_98 : decode cX10_setField 98 = .ok (.iadd, 1) := by decide +kernel
theorem dX10_setField_99 : decode cX10_setField 99 = .ok (.iload 4, 2) := by decide +kernel
theorem dX10_setField_101 : decode cX10_setField 101 = .ok (.iastore, 1) := by decide +kernel
theorem dX10_setField_102 : decode cX10_setField 102 = .ok (.iconst 0, 1) := by decide +kernel
theorem dX10_setField_103 : decode cX10_setField 103 = .ok (.istore 7, 2) := by decide +kernel
theorem dX10_setField_105 : decode cX10_setField 105 = .ok (.iload 7, 2) := by decide +kernel
theorem dX10_setField_107 : decode cX10_setField 107 = .ok (.bipush 12, 2) := by decide +kernel
theorem dX10_setField_109 : decode cX10_setField 109 = .ok (.if_icmp .ge 45, 3) := by decide +kernel
theorem dX10_setField_112 : decode cX10_setField 112 = .ok (.aload_n 0, 1) := by decide +kernel
theorem dX10_setField_113 : decode cX10_setField 113 = .ok (.getfield 9, 3) := by decide +kernel
theorem dX10_setField_116 : decode cX10_setField 116 = .ok (.iload 6, 2) := by decide +kernel
theorem dX10_setField_118 : decode cX10_setField 118 = .ok (.bipush 7, 2) := by decide +kernel
theorem dX10_setField_120 : decode cX10_setField 120 = .ok (.iadd, 1) := by decide +kernel
theorem dX10_setField_121 : decode cX10_setField 121 = .ok (.bipush 12, 2) := by decide +kernel
theorem dX10_setField_123 : decode cX10_setField 123 = .ok (.iload_n 2, 1) := by decide +kernel
theorem dX10_setField_124 : decode cX10_setField 124 = .ok (.imul, 1) := by decide +kernel
theorem dX10_setField_125 : decode cX10_setField 125 = .ok (.iadd, 1) := by decide +kernel
theorem dX10_setField_126 : decode cX10_setField 126 = .ok (.iload 7, 2) := by decide +kernel
theorem dX10_setField_128 : decode cX10_setField 128 = .ok (.iadd, 1) := by decide +kernel
theorem dX10_setField_129 : decode cX10_setField 129 = .ok (.iload 7, 2) := by decide +kernel
theorem dX10_setField_131 : decode cX10_setField 131 = .ok (.iload 4, 2) := by decide +kernel
theorem dX10_setField_133 : decode cX10_setField 133 = .ok (.if_icmp .ge 13, 3) := by decide +kernel
theorem dX10_setField_136 : decode cX10_setField 136 = .ok (.aload_n 0, 1) := by decide +kernel
theorem dX10_setField_137 : decode cX10_setField 137 = .ok (.getfield 13, 3) := by decide +kernel
theorem dX10_setField_140 : decode cX10_setField 140 = .ok (.iload 7, 2) := by decide +kernel
theorem dX10_setField_142 : decode cX10_setField 142 = .ok (.iaload, 1) := by decide +kernel
theorem dX10_setField_143 : decode cX10_setField 143 = .ok (.goto 4, 3) := by decide +kernel
theorem dX10_setField_146 : decode cX10_setField 146 = .ok (.iconst 0, 1) := by decide +kernel
theorem dX10_setField_147 : decode cX10_setField 147 = .ok (.iastore, 1) := by decide +kernel
theorem dX10_setField_148 : decode cX10_setField 148 = .ok (.iinc 7 1, 3) := by decide +kernel
theorem dX10_setField_151 : decode cX10_setField 151 = .ok (.goto (-46), 3) := by decide +kernel
theorem dX10_setField_154 : decode cX10_setField 154 = .ok (.iload 5, 2) := by decide +kernel
theorem dX10_setField_156 : decode cX10_setField 156 = .ok (.ireturn, 1) := by decide +kernel
theorem dX10_setNumber_0 : decode cX10_setNumber 0 = .ok (.aload_n 0, 1) := by decide +kernel
theorem dX10_setNumber_1 : decode cX10_setNumber 1 = .ok (.aload_n 0, 1) := by decide +kernel
theorem dX10_setNumber_2 : decode cX10_setNumber 2 = .ok (.iload_n 1, 1) := by decide +kernel
theorem dX10_setNumber_3 : decode cX10_setNumber 3 = .ok (.invokevirtual 102, 3) := by decide +kernel
theorem dX10_setNumber_6 : decode cX10_setNumber 6 = .ok (.ifCond .ne 7, 3) := by decide +kernel
theorem dX10_setNumber_9 : decode cX10_setNumber 9 = .ok (.iconst 1, 1) := by decide +kernel
theorem dX10_setNumber_10 : decode cX10_setNumber 10 = .ok (.goto 27, 3) := by decide +kernel
theorem dX10_setNumber_13 : decode cX10_setNumber 13 = .ok (.iload_n 3, 1) := by decide +kernel
theorem dX10_setNumber_14 : decode cX10_setNumber 14 = .ok (.iconst 0, 1) := by decide +kernel
theorem dX10_setNumber_15 : decode cX10_setNumber 15 = .ok (.iload_n 2, 1) := by decide +kernel
theorem dX10_setNumber_16 : decode cX10_setNumber 16 = .ok (.ifCond .eq 8, 3) := by decide +kernel
theorem dX10_setNumber_19 : decode cX10_setNumber 19 = .ok (.bipush 99, 2) := by decide +kernel
theorem dX10_setNumber_21 : decode cX10_setNumber 21 = .ok (.goto 5, 3) := by decide +kernel
theorem dX10_setNumber_24 : decode cX10_setNumber 24 = .ok (.bipush 9, 2) := by decide +kernel
theorem dX10_setNumber_26 : decode cX10_setNumber 26 = .ok (.invokestatic 88, 3) := by decide +kernel
theorem dX10_setNumber_29 : decode cX10_setNumber 29 = .ok (.ifCond .eq 7, 3) := by decide +kernel
theorem dX10_setNumber_32 : decode cX10_setNumber 32 = .ok (.iconst 0, 1) := by decide +kernel
theorem dX10_setNumber_33 : decode cX10_setNumber 33 = .ok (.goto 4, 3) := by decide +kernel
theorem dX10_setNumber_36 : decode cX10_setNumber 36 = .ok (.iconst 2, 1) := by decide +kernel
theorem dX10_setNumber_37 : decode cX10_setNumber 37 = .ok (.putfield 78, 3) := by decide +kernel
theorem dX10_setNumber_40 : decode cX10_setNumber 40 = .ok (.aload_n 0, 1) := by decide +kernel
theorem dX10_setNumber_41 : decode cX10_setNumber 41 = .ok (.getfield 78, 3) := by decide +kernel
theorem dX10_setNumber_44 : decode cX10_setNumber 44 = .ok (.ifCond .eq 5, 3) := by decide +kernel
theorem dX10_setNumber_47 : decode cX10_setNumber 47 = .ok (.iconst 0, 1) := by decide +kernel
theorem dX10_setNumber_48 : decode cX10_setNumber 48 = .ok (.ireturn, 1) := by decide +kernel
theorem dX10_setNumber_49 : decode cX10_setNumber 49 = .ok (.aload_n 0, 1) := by decide +kernel
theorem dX10_setNumber_50 : decode cX10_setNumber 50 = .ok (.invokevirtual 99, 3) := by decide +kernel
theorem dX10_setNumber_53 : decode cX10_setNumber 53 = .ok (.sipush 139, 3) := by decide +kernel
theorem dX10_setNumber_56 : decode cX10_setNumber 56 = .ok (.bipush 67, 2) := by decide +kernel
theorem dX10_setNumber_58 : decode cX10_setNumber 58 = .ok (.iload_n 1, 1) := by decide +kernel
theorem dX10_setNumber_59 : decode cX10_setNumber 59 = .ok (.imul, 1) := by decide +kernel
theorem dX10_setNumber_60 : decode cX10_setNumber 60 = .ok (.iadd, 1) := by decide +kernel
theorem dX10_setNumber_61 : decode cX10_setNumber 61 = .ok (.iload_n 2, 1) := by decide +kernel
theorem dX10_setNumber_62 : decode cX10_setNumber 62 = .ok (.ifCond .eq 7, 3) := by decide +kernel
theorem dX10_setNumber_65 : decode cX10_setNumber 65 = .ok (.iconst 1, 1) := by decide +kernel
theorem dX10_setNumber_66 : decode cX10_setNumber 66 = .ok (.goto 4, 3) := by decide +kernel
theorem dX10_setNumber_69 : decode cX10_setNumber 69 = .ok (.iconst 0, 1) := by decide +kernel
theorem dX10_setNumber_70 : decode cX10_setNumber 70 = .ok (.iadd, 1) := by decide +kernel
theorem dX10_setNumber_71 : decode cX10_setNumber 71 = .ok (.istore 4, 2) := by decide +kernel
theorem dX10_setNumber_73 : decode cX10_setNumber 73 = .ok (.aload_n 0, 1) := by decide +kernel
theorem dX10_setNumber_74 : decode cX10_setNumber 74 = .ok (.getfield 9, 3) := by decide +kernel
theorem dX10_setNumber_77 : decode cX10_setNumber 77 = .ok (.iload 4, 2) := by decide +kernel
theorem dX10_setNumber_79 : decode cX10_setNumber 79 = .ok (.iaload, 1) := by decide +kernel
theorem dX10_setNumber_80 : decode cX10_setNumber 80 = .ok (.istore 5, 2) := by decide +kernel
theorem dX10_setNumber_82 : decode cX10_setNumber 82 = .ok (.aload_n 0, 1) := by decide +kernel
theorem dX10_setNumber_83 : decode cX10_setNumber 83 = .ok (.getfield 9, 3) := by decide +kernel
theorem dX10_setNumber_86 : decode cX10_setNumber 86 = .ok (.iload 4, 2) := by decide +kernel
theorem dX10_setNumber_88 : decode cX10_setNumber 88 = .ok (.iload_n 3, 1) := by decide +kernel
theorem dX10_setNumber_89 : decode cX10_setNumber 89 = .ok (.iastore, 1) := by decide +kernel
theorem dX10_setNumber_90 : decode cX10_setNumber 90 = .ok (.iload 5, 2) := by decide +kernel
theorem dX10_setNumber_92 : decode cX10_setNumber 92 = .ok (.ireturn, 1) := by decide +kernel
theorem dX10_field_0 : decode cX10_field 0 = .ok (.aload_n 0, 1) := by decide +kernel
theorem dX10_field_1 : decode cX10_field 1 = .ok (.aload_n 0, 1) := by decide +kernel
theorem dX10_field_2 : decode cX10_field 2 = .ok (.iload_n 1, 1) := by decide +kernel
theorem dX10_field_3 : decode cX10_field 3 = .ok (.invokevirtual 102, 3) := by decide +kernel
theorem dX10_field_6 : decode cX10_field 6 = .ok (.ifCond .eq 12, 3) := by decide +kernel
theorem dX10_field_9 : decode cX10_field 9 = .ok (.iload_n 2, 1) := by decide +kernel
theorem dX10_field_10 : decode cX10_field 10 = .ok (.iconst 0, 1) := by decide +kernel
theorem dX10_field_11 : decode cX10_field 11 = .ok (.iconst 4, 1) := by decide +kernel
theorem dX10_field_12 : decode cX10_field 12 = .ok (.invokestatic 88, 3) := by decide +kernel
theorem dX10_field_15 : decode cX10_field 15 = .ok (.ifCond .ne 7, 3) := by decide +kernel
theorem dX10_field_18 : decode cX10_field 18 = .ok (.iconst 1, 1) := by decide +kernel
theorem dX10_field_19 : decode cX10_field 19 = .ok (.goto 24, 3) := by decide +kernel
theorem dX10_field_22 : decode cX10_field 22 = .ok (.iload_n 3, 1) := by decide +kernel
theorem dX10_field_23 : decode cX10_field 23 = .ok (.iconst (-1), 1) := by decide +kernel
theorem dX10_field_24 : decode cX10_field 24 = .ok (.aload_n 0, 1) := by decide +kernel
theorem dX10_field_25 : decode cX10_field 25 = .ok (.iload_n 1, 1) := by decide +kernel
theorem dX10_field_26 : decode cX10_field 26 = .ok (.iload_n 2, 1) := by decide +kernel
theorem dX10_field_27 : decode cX10_field 27 = .ok (.invokevirtual 109, 3) := by decide +kernel
theorem dX10_field_30 : decode cX10_field 30 = .ok (.iconst 1, 1) := by decide +kernel
theorem dX10_field_31 : decode cX10_field 31 = .ok (.isub, 1) := by decide +kernel
theorem dX10_field_32 : decode cX10_field 32 = .ok (.invokestatic 88, 3) := by decide +kernel
theorem dX10_field_35 : decode cX10_field 35 = .ok (.ifCond .eq 7, 3) := by decide +kernel
theorem dX10_field_38 : decode cX10_field 38 = .ok (.iconst 0, 1) := by decide +kernel
theorem dX10_field_39 : decode cX10_field 39 = .ok (.goto 4, 3) := by decide +kernel
theorem dX10_field_42 : decode cX10_field 42 = .ok (.iconst 2, 1) := by decide +kernel
theorem dX10_field_43 : decode cX10_field 43 = .ok (.putfield 78, 3) := by decide +kernel
theorem dX10_field_46 : decode cX10_field 46 = .ok (.aload_n 0, 1) := by decide +kernel
theorem dX10_field_47 : decode cX10_field 47 = .ok (.getfield 78, 3) := by decide +kernel
theorem dX10_field_50 : decode cX10_field 50 = .ok (.ifCond .eq 7, 3) := by decide +kernel
theorem dX10_field_53 : decode cX10_field 53 = .ok (.iconst 0, 1) := by decide +kernel
theorem dX10_field_54 : decode cX10_field 54 = .ok (.goto 23, 3) := by decide +kernel
theorem dX10_field_57 : decode cX10_field 57 = .ok (.iload_n 3, 1) := by decide +kernel
theorem dX10_field_58 : decode cX10_field 58 = .ok (.ifCond .ge 12, 3) := by decide +kernel
theorem dX10_field_61 : decode cX10_field 61 = .ok (.aload_n 0, 1) := by decide +kernel
theorem dX10_field_62 : decode cX10_field 62 = .ok (.iload_n 1, 1) := by decide +kernel
theorem dX10_field_63 : decode cX10_field 63 = .ok (.iload_n 2, 1) := by decide +kernel
theorem dX10_field_64 : decode cX10_field 64 = .ok (.invokevirtual 109, 3) := by decide +kernel
theorem dX10_field_67 : decode cX10_field 67 = .ok (.goto 10, 3) := by decide +kernel
theorem dX10_field_70 : decode cX10_field 70 = .ok (.aload_n 0, 1) := by decide +kernel
theorem dX10_field_71 : decode cX10_field 71 = .ok (.iload_n 1, 1) := by decide +kernel
theorem dX10_field_72 : decode cX10_field 72 = .ok (.iload_n 2, 1) := by decide +kernel
theorem dX10_field_73 : decode cX10_field 73 = .ok (.iload_n 3, 1) := by decide +kernel
theorem dX10_field_74 : decode cX10_field 74 = .ok (.invokevirtual 113, 3) := by decide +kernel
theorem dX10_field_77 : decode cX10_field 77 = .ok (.ireturn, 1) := by decide +kernel
theorem dX10_small_0 : decode cX10_small 0 = .ok (.iload_n 0, 1) := by decide +kernel
theorem dX10_small_1 : decode cX10_small 1 = .ok (.bipush 65, 2) := by decide +kernel
theorem dX10_small_3 : decode cX10_small 3 = .ok (.bipush 90, 2) := by decide +kernel
theorem dX10_small_5 : decode cX10_small 5 = .ok (.invokestatic 88, 3) := by decide +kernel
theorem dX10_small_8 : decode cX10_small 8 = .ok (.ifCond .eq 10, 3) := by decide +kernel
theorem dX10_small_11 : decode cX10_small 11 = .ok (.iload_n 0, 1) := by decide +kernel
theorem dX10_small_12 : decode cX10_small 12 = .ok (.bipush 32, 2) := by decide +kernel
theorem dX10_small_14 : decode cX10_small 14 = .ok (.iadd, 1) := by decide +kernel
theorem dX10_small_15 : decode cX10_small 15 = .ok (.goto 4, 3) := by decide +kernel
theorem dX10_small_18 : decode cX10_small 18 = .ok (.iload_n 0, 1) := by decide +kernel
theorem dX10_small_19 : decode cX10_small 19 = .ok (.ireturn, 1) := by decide +kernel
theorem dX10_isHome_0 : decode cX10_isHome 0 = .ok (.aload_n 0, 1) := by decide +kernel
