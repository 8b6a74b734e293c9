/-! how each class finds its fields, methods and classes: printed by program out of the tables -/
theorem jWs_sub (ws : List Cond) (ps : List Nat) (h : ws = ps.filterMap (fun i => lw_tbl[i]?)) (hg : ws.all goodWord = true) : ∀ w ∈ ws, w ∈ jWs := fun w hw => by
  have h1 := List.all_eq_true.mp hg w hw
  rw [h] at hw
  obtain ⟨i, -, hi⟩ := List.mem_filterMap.mp hw
  exact List.mem_filter.mpr ⟨List.mem_of_getElem? hi, h1⟩
theorem uin_J0 : ∀ w ∈ u_ws RJ0 TJ0 4, w ∈ jWs := jWs_sub _ [702, 704, 900, 902] (by decide +kernel) (by decide +kernel)
theorem uin_J4 : ∀ w ∈ u_ws RJ4 TJ4 4, w ∈ jWs := jWs_sub _ [140, 142, 144, 146] (by decide +kernel) (by decide +kernel)
theorem uin_Jx00060 : ∀ w ∈ u_ws RJx00060 TJx00060 6, w ∈ jWs := jWs_sub _ [690, 691, 692, 693, 694, 695] (by decide +kernel) (by decide +kernel)
theorem uin_Jx7c733 : ∀ w ∈ u_ws RJx7c733 TJx7c733 6, w ∈ jWs := jWs_sub _ [924, 925, 926, 927, 928, 929] (by decide +kernel) (by decide +kernel)
theorem uin_X0 : ∀ w ∈ u_ws RX0 TX0 4, w ∈ jWs := jWs_sub _ [1277, 1279, 1281, 1283] (by decide +kernel) (by decide +kernel)
theorem uin_X1 : ∀ w ∈ u_ws RX1 TX1 3, w ∈ jWs := jWs_sub _ [666, 668, 670] (by decide +kernel) (by decide +kernel)
theorem uin_X2 : ∀ w ∈ u_ws RX2 TX2 6, w ∈ jWs := jWs_sub _ [189, 191, 193, 195, 197, 199] (by decide +kernel) (by decide +kernel)
theorem uin_X3 : ∀ w ∈ u_ws RX3 TX3 2, w ∈ jWs := jWs_sub _ [299, 301] (by decide +kernel) (by decide +kernel)
theorem uin_X4 : ∀ w ∈ u_ws RX4 TX4 11, w ∈ jWs := jWs_sub _ [1133, 1135, 1137, 1139, 1141, 1143, 1145, 1147, 1149, 1151, 1153] (by decide +kernel) (by decide +kernel)
theorem uin_X5 : ∀ w ∈ u_ws RX5 TX5 8, w ∈ jWs := jWs_sub _ [233, 235, 237, 239, 241, 243, 245, 247] (by decide +kernel) (by decide +kernel)
theorem uin_X6 : ∀ w ∈ u_ws RX6 TX6 7, w ∈ jWs := jWs_sub _ [278, 280, 282, 284, 286, 288, 290] (by decide +kernel) (by decide +kernel)
theorem uin_X7 : ∀ w ∈ u_ws RX7 TX7 6, w ∈ jWs := jWs_sub _ [1068, 1070, 1072, 1074, 1076, 1078] (by decide +kernel) (by decide +kernel)
theorem uin_X8 : ∀ w ∈ u_ws RX8 TX8 1, w ∈ jWs := jWs_sub _ [211] (by decide +kernel) (by decide +kernel)
theorem uin_X9 : ∀ w ∈ u_ws RX9 TX9 10, w ∈ jWs := jWs_sub _ [316, 318, 320, 322, 324, 326, 328, 330, 332, 334] (by decide +kernel) (by decide +kernel)
theorem uin_X10 : ∀ w ∈ u_ws RX10 TX10 36, w ∈ jWs := jWs_sub _ [1642, 1644, 1646, 1648, 1650, 1652, 1654, 1656, 1658, 1660, 1662, 1664, 1666, 1668, 1670, 1672, 1674, 1676, 1678, 1680, 1682, 1684, 1686, 1688, 1690, 1692, 1694, 1696, 1698, 1700, 1702, 1704, 1706, 1708, 1710, 1712] (by decide +kernel) (by decide +kernel)
abbrev jX0_init : jY := (yX0_init, cX0_init, 5, (Option.none : Option Jvm.ClassFile.FieldType), [])
abbrev jX0_isTrueFor : jY := (yX0_isTrueFor, cX0_isTrueFor, 2, (Option.some Jvm.ClassFile.FieldType.boolean), [])
abbrev jX0_holdsFor : jY := (yX0_holdsFor, cX0_holdsFor, 2, (Option.some Jvm.ClassFile.FieldType.boolean), [])
abbrev jX1_init : jY := (yX1_init, cX1_init, 5, (Option.none : Option Jvm.ClassFile.FieldType), [])
abbrev jX1_init_ : jY := (yX1_init_, cX1_init_, 4, (Option.none : Option Jvm.ClassFile.FieldType), [])
abbrev jX1_withGroup : jY := (yX1_withGroup, cX1_withGroup, 2, (Option.some (Jvm.ClassFile.FieldType.object "MailMerge$Entry")), [])
abbrev jX1_withCount : jY := (yX1_withCount, cX1_withCount, 2, (Option.some (Jvm.ClassFile.FieldType.object "MailMerge$Entry")), [])
abbrev jX1_withText : jY := (yX1_withText, cX1_withText, 5, (Option.some (Jvm.ClassFile.FieldType.object "MailMerge$Entry")), [])
abbrev jX1_textAt : jY := (yX1_textAt, cX1_textAt, 2, (Option.some (Jvm.ClassFile.FieldType.object "MailMerge$Text")), [])
abbrev jX1_filledFields : jY := (yX1_filledFields, cX1_filledFields, 3, (Option.some Jvm.ClassFile.FieldType.int), [])
abbrev jX2_init : jY := (yX2_init, cX2_init, 2, (Option.none : Option Jvm.ClassFile.FieldType), [])
abbrev jX2_addLast : jY := (yX2_addLast, cX2_addLast, 2, (Option.none : Option Jvm.ClassFile.FieldType), [])
abbrev jX2_pieceAt : jY := (yX2_pieceAt, cX2_pieceAt, 2, (Option.some (Jvm.ClassFile.FieldType.object "MailMerge$Piece")), [])
abbrev jX3_init : jY := (yX3_init, cX3_init, 2, (Option.none : Option Jvm.ClassFile.FieldType), [])
abbrev jX3_makeFrom : jY := (yX3_makeFrom, cX3_makeFrom, 4, (Option.none : Option Jvm.ClassFile.FieldType), [])
abbrev jX3_howMany : jY := (yX3_howMany, cX3_howMany, 4, (Option.some Jvm.ClassFile.FieldType.int), [])
abbrev jX3_totalLength : jY := (yX3_totalLength, cX3_totalLength, 3, (Option.some Jvm.ClassFile.FieldType.int), [])
abbrev jX4_init : jY := (yX4_init, cX4_init, 5, (Option.none : Option Jvm.ClassFile.FieldType), [])
abbrev jX4_isMetBy : jY := (yX4_isMetBy, cX4_isMetBy, 3, (Option.some Jvm.ClassFile.FieldType.boolean), [])
abbrev jX5_init : jY := (yX5_init, cX5_init, 1, (Option.none : Option Jvm.ClassFile.FieldType), [])
abbrev jX5_reset : jY := (yX5_reset, cX5_reset, 1, (Option.none : Option Jvm.ClassFile.FieldType), [])
abbrev jX5_copyFrom : jY := (yX5_copyFrom, cX5_copyFrom, 3, (Option.none : Option Jvm.ClassFile.FieldType), [])
abbrev jX5_entryAt : jY := (yX5_entryAt, cX5_entryAt, 2, (Option.some (Jvm.ClassFile.FieldType.object "MailMerge$Entry")), [])
abbrev jX5_addLast : jY := (yX5_addLast, cX5_addLast, 2, (Option.none : Option Jvm.ClassFile.FieldType), [])
abbrev jX5_replace : jY := (yX5_replace, cX5_replace, 3, (Option.none : Option Jvm.ClassFile.FieldType), [])
abbrev jX5_removeAt : jY := (yX5_removeAt, cX5_removeAt, 2, (Option.none : Option Jvm.ClassFile.FieldType), [])
abbrev jX5_moveTo : jY := (yX5_moveTo, cX5_moveTo, 5, (Option.none : Option Jvm.ClassFile.FieldType), [])
abbrev jX5_sortBy : jY := (yX5_sortBy, cX5_sortBy, 9, (Option.some Jvm.ClassFile.FieldType.int), [])
abbrev jX5_comesBefore : jY := (yX5_comesBefore, cX5_comesBefore, 7, (Option.some Jvm.ClassFile.FieldType.boolean), [])
abbrev jX5_addressFields : jY := (yX5_addressFields, cX5_addressFields, 3, (Option.some Jvm.ClassFile.FieldType.int), [])
abbrev jX5_isExcluded : jY := (yX5_isExcluded, cX5_isExcluded, 2, (Option.some Jvm.ClassFile.FieldType.boolean), [])
abbrev jX5_areDuplicates : jY := (yX5_areDuplicates, cX5_areDuplicates, 4, (Option.some Jvm.ClassFile.FieldType.boolean), [])
abbrev jX5_keptOf : jY := (yX5_keptOf, cX5_keptOf, 10, (Option.some Jvm.ClassFile.FieldType.int), [])
abbrev jX5_isBetter : jY := (yX5_isBetter, cX5_isBetter, 3, (Option.some Jvm.ClassFile.FieldType.boolean), [])
abbrev jX6_init : jY := (yX6_init, cX6_init, 1, (Option.none : Option Jvm.ClassFile.FieldType), [])
abbrev jX6_leaveBlank : jY := (yX6_leaveBlank, cX6_leaveBlank, 2, (Option.none : Option Jvm.ClassFile.FieldType), [])
abbrev jX6_write : jY := (yX6_write, cX6_write, 7, (Option.none : Option Jvm.ClassFile.FieldType), [])
abbrev jX6_writePiece : jY := (yX6_writePiece, cX6_writePiece, 4, (Option.none : Option Jvm.ClassFile.FieldType), [])
abbrev jX6_put : jY := (yX6_put, cX6_put, 2, (Option.none : Option Jvm.ClassFile.FieldType), [])
abbrev jX6_putAll : jY := (yX6_putAll, cX6_putAll, 3, (Option.none : Option Jvm.ClassFile.FieldType), [])
abbrev jX6_putNumber : jY := (yX6_putNumber, cX6_putNumber, 2, (Option.none : Option Jvm.ClassFile.FieldType), [])
abbrev jX6_putField : jY := (yX6_putField, cX6_putField, 6, (Option.none : Option Jvm.ClassFile.FieldType), [])
abbrev jX6_putAddress : jY := (yX6_putAddress, cX6_putAddress, 5, (Option.none : Option Jvm.ClassFile.FieldType), [])
abbrev jX6_explain : jY := (yX6_explain, cX6_explain, 5, (Option.none : Option Jvm.ClassFile.FieldType), [])
abbrev jX7_init : jY := (yX7_init, cX7_init, 2, (Option.none : Option Jvm.ClassFile.FieldType), [])
abbrev jX7_readAll : jY := (yX7_readAll, cX7_readAll, 3, (Option.some Jvm.ClassFile.FieldType.boolean), [])
abbrev jX7_readLiteral : jY := (yX7_readLiteral, cX7_readLiteral, 2, (Option.none : Option Jvm.ClassFile.FieldType), [])
abbrev jX7_readBraces : jY := (yX7_readBraces, cX7_readBraces, 2, (Option.none : Option Jvm.ClassFile.FieldType), [])
abbrev jX7_readWords : jY := (yX7_readWords, cX7_readWords, 2, (Option.none : Option Jvm.ClassFile.FieldType), [])
abbrev jX7_openBrackets : jY := (yX7_openBrackets, cX7_openBrackets, 3, (Option.none : Option Jvm.ClassFile.FieldType), [])
abbrev jX7_closeBrackets : jY := (yX7_closeBrackets, cX7_closeBrackets, 2, (Option.none : Option Jvm.ClassFile.FieldType), [])
abbrev jX7_readCondition : jY := (yX7_readCondition, cX7_readCondition, 5, (Option.some (Jvm.ClassFile.FieldType.object "MailMerge$Condition")), [])
abbrev jX7_takeRelation : jY := (yX7_takeRelation, cX7_takeRelation, 2, (Option.some Jvm.ClassFile.FieldType.int), [])
abbrev jX7_takeNumber : jY := (yX7_takeNumber, cX7_takeNumber, 3, (Option.some Jvm.ClassFile.FieldType.int), [])
abbrev jX7_takeField : jY := (yX7_takeField, cX7_takeField, 2, (Option.some Jvm.ClassFile.FieldType.int), [])
abbrev jX7_takeDigit : jY := (yX7_takeDigit, cX7_takeDigit, 3, (Option.some Jvm.ClassFile.FieldType.int), [])
abbrev jX7_take : jY := (yX7_take, cX7_take, 2, (Option.none : Option Jvm.ClassFile.FieldType), [])
abbrev jX7_takeLiterals : jY := (yX7_takeLiterals, cX7_takeLiterals, 3, (Option.some (Jvm.ClassFile.FieldType.object "java/lang/String")), [])
abbrev jX7_sign : jY := (yX7_sign, cX7_sign, 1, (Option.some Jvm.ClassFile.FieldType.int), [])
abbrev jX7_addPiece : jY := (yX7_addPiece, cX7_addPiece, 4, (Option.some (Jvm.ClassFile.FieldType.object "MailMerge$Piece")), [])
abbrev jX7_isLiteral : jY := (yX7_isLiteral, cX7_isLiteral, 1, (Option.some Jvm.ClassFile.FieldType.boolean), [])
abbrev jX8_init : jY := (yX8_init, cX8_init, 2, (Option.none : Option Jvm.ClassFile.FieldType), [])
abbrev jX8_length : jY := (yX8_length, cX8_length, 1, (Option.some Jvm.ClassFile.FieldType.int), [])
abbrev jX8_isEmpty : jY := (yX8_isEmpty, cX8_isEmpty, 1, (Option.some Jvm.ClassFile.FieldType.boolean), [])
abbrev jX8_signAt : jY := (yX8_signAt, cX8_signAt, 2, (Option.some Jvm.ClassFile.FieldType.char), [])
abbrev jX8_isSameAs : jY := (yX8_isSameAs, cX8_isSameAs, 2, (Option.some Jvm.ClassFile.FieldType.boolean), [])
abbrev jX8_compareWith : jY := (yX8_compareWith, cX8_compareWith, 5, (Option.some Jvm.ClassFile.FieldType.int), [])
abbrev jX8_capital : jY := (yX8_capital, cX8_capital, 1, (Option.some Jvm.ClassFile.FieldType.char), [])
abbrev jX9_init : jY := (yX9_init, cX9_init, 2, (Option.none : Option Jvm.ClassFile.FieldType), [])
abbrev jX9_clear : jY := (yX9_clear, cX9_clear, 2, (Option.some Jvm.ClassFile.FieldType.int), [])
abbrev jX9_append : jY := (yX9_append, cX9_append, 5, (Option.some Jvm.ClassFile.FieldType.int), [])
abbrev jX9_addRecord : jY := (yX9_addRecord, cX9_addRecord, 3, (Option.some Jvm.ClassFile.FieldType.int), [])
abbrev jX9_removeRecord : jY := (yX9_removeRecord, cX9_removeRecord, 2, (Option.some Jvm.ClassFile.FieldType.int), [])
abbrev jX9_moveRecord : jY := (yX9_moveRecord, cX9_moveRecord, 3, (Option.some Jvm.ClassFile.FieldType.int), [])
abbrev jX9_sort : jY := (yX9_sort, cX9_sort, 3, (Option.some Jvm.ClassFile.FieldType.int), [])
abbrev jX9_setField : jY := (yX9_setField, cX9_setField, 5, (Option.some Jvm.ClassFile.FieldType.int), [])
abbrev jX9_setNumber : jY := (yX9_setNumber, cX9_setNumber, 5, (Option.some Jvm.ClassFile.FieldType.int), [])
abbrev jX9_field : jY := (yX9_field, cX9_field, 6, (Option.some Jvm.ClassFile.FieldType.int), [])
abbrev jX9_record : jY := (yX9_record, cX9_record, 4, (Option.some Jvm.ClassFile.FieldType.int), [])
abbrev jX9_setTemplate : jY := (yX9_setTemplate, cX9_setTemplate, 2, (Option.some Jvm.ClassFile.FieldType.int), [])
abbrev jX9_errorPosition : jY := (yX9_errorPosition, cX9_errorPosition, 1, (Option.some Jvm.ClassFile.FieldType.int), [])
abbrev jX9_template : jY := (yX9_template, cX9_template, 3, (Option.some Jvm.ClassFile.FieldType.int), [])
abbrev jX9_item : jY := (yX9_item, cX9_item, 4, (Option.some Jvm.ClassFile.FieldType.int), [])
abbrev jX9_counts : jY := (yX9_counts, cX9_counts, 7, (Option.some Jvm.ClassFile.FieldType.boolean), [])
abbrev jX9_setHome : jY := (yX9_setHome, cX9_setHome, 3, (Option.some Jvm.ClassFile.FieldType.int), [])
abbrev jX9_setKeys : jY := (yX9_setKeys, cX9_setKeys, 3, (Option.some Jvm.ClassFile.FieldType.int), [])
abbrev jX9_setPolicy : jY := (yX9_setPolicy, cX9_setPolicy, 3, (Option.some Jvm.ClassFile.FieldType.int), [])
abbrev jX9_exclude : jY := (yX9_exclude, cX9_exclude, 5, (Option.some Jvm.ClassFile.FieldType.boolean), [])
abbrev jX9_setLimit : jY := (yX9_setLimit, cX9_setLimit, 3, (Option.some Jvm.ClassFile.FieldType.int), [])
abbrev jX9_setting : jY := (yX9_setting, cX9_setting, 2, (Option.some Jvm.ClassFile.FieldType.int), [])
abbrev jX9_run : jY := (yX9_run, cX9_run, 1, (Option.some Jvm.ClassFile.FieldType.int), [])
abbrev jX9_reason : jY := (yX9_reason, cX9_reason, 2, (Option.some Jvm.ClassFile.FieldType.int), [])
abbrev jX9_reasons : jY := (yX9_reasons, cX9_reasons, 2, (Option.some Jvm.ClassFile.FieldType.int), [])
abbrev jX9_letter : jY := (yX9_letter, cX9_letter, 4, (Option.some Jvm.ClassFile.FieldType.int), [])
abbrev jX9_chain : jY := (yX9_chain, cX9_chain, 4, (Option.some Jvm.ClassFile.FieldType.int), [])
abbrev jX9_kept : jY := (yX9_kept, cX9_kept, 3, (Option.some Jvm.ClassFile.FieldType.int), [])
abbrev jX9_preview : jY := (yX9_preview, cX9_preview, 2, (Option.some Jvm.ClassFile.FieldType.int), [])
abbrev jX9_meanLength : jY := (yX9_meanLength, cX9_meanLength, 2, (Option.some Jvm.ClassFile.FieldType.double), [])
abbrev jX9_share : jY := (yX9_share, cX9_share, 1, (Option.some Jvm.ClassFile.FieldType.float), [])
abbrev jX9_isOrderFree : jY := (yX9_isOrderFree, cX9_isOrderFree, 5, (Option.some Jvm.ClassFile.FieldType.boolean), [])
abbrev jX9_undo : jY := (yX9_undo, cX9_undo, 1, (Option.some Jvm.ClassFile.FieldType.int), [])
abbrev jX9_snapshot : jY := (yX9_snapshot, cX9_snapshot, 1, (Option.some Jvm.ClassFile.FieldType.int), [])
abbrev jX9_restore : jY := (yX9_restore, cX9_restore, 1, (Option.some Jvm.ClassFile.FieldType.int), [])
abbrev jX9_byteAt : jY := (yX9_byteAt, cX9_byteAt, 2, (Option.some Jvm.ClassFile.FieldType.int), [])
abbrev jX9_isGroup : jY := (yX9_isGroup, cX9_isGroup, 1, (Option.some Jvm.ClassFile.FieldType.boolean), [])
abbrev jX9_isCountInRange : jY := (yX9_isCountInRange, cX9_isCountInRange, 1, (Option.some Jvm.ClassFile.FieldType.boolean), [])
abbrev jX9_checkField : jY := (yX9_checkField, cX9_checkField, 1, (Option.none : Option Jvm.ClassFile.FieldType), [])
abbrev jX9_existing : jY := (yX9_existing, cX9_existing, 3, (Option.some (Jvm.ClassFile.FieldType.object "MailMerge$Entry")), [])
abbrev jX9_existingPiece : jY := (yX9_existingPiece, cX9_existingPiece, 3, (Option.some (Jvm.ClassFile.FieldType.object "MailMerge$Piece")), [])
abbrev jX9_checkRun : jY := (yX9_checkRun, cX9_checkRun, 1, (Option.none : Option Jvm.ClassFile.FieldType), [])
abbrev jX9_sheetOf : jY := (yX9_sheetOf, cX9_sheetOf, 2, (Option.some (Jvm.ClassFile.FieldType.object "MailMerge$Sheet")), [])
abbrev jX9_takeBuffer : jY := (yX9_takeBuffer, cX9_takeBuffer, 2, (Option.some (Jvm.ClassFile.FieldType.object "java/lang/String")), [])
abbrev jX9_takeFieldText : jY := (yX9_takeFieldText, cX9_takeFieldText, 3, (Option.some (Jvm.ClassFile.FieldType.object "MailMerge$Text")), [])
abbrev jX9_wrongPlaceOfField : jY := (yX9_wrongPlaceOfField, cX9_wrongPlaceOfField, 2, (Option.some Jvm.ClassFile.FieldType.int), [])
abbrev jX9_remember : jY := (yX9_remember, cX9_remember, 1, (Option.none : Option Jvm.ClassFile.FieldType), [])
abbrev jX9_forgetOldest : jY := (yX9_forgetOldest, cX9_forgetOldest, 3, (Option.none : Option Jvm.ClassFile.FieldType), [])
abbrev jX10_init : jY := (yX10_init, cX10_init, 1, (Option.none : Option Jvm.ClassFile.FieldType), [])
abbrev jX10_thrown : jY := (yX10_thrown, cX10_thrown, 1, (Option.some Jvm.ClassFile.FieldType.int), [])
abbrev jX10_in : jY := (yX10_in, cX10_in, 3, (Option.some Jvm.ClassFile.FieldType.boolean), [])
abbrev jX10_copies : jY := (yX10_copies, cX10_copies, 4, (Option.none : Option Jvm.ClassFile.FieldType), [])
abbrev jX10_keeps : jY := (yX10_keeps, cX10_keeps, 2, (Option.none : Option Jvm.ClassFile.FieldType), [])
abbrev jX10_isRecord : jY := (yX10_isRecord, cX10_isRecord, 2, (Option.some Jvm.ClassFile.FieldType.boolean), [])
abbrev jX10_groupOf : jY := (yX10_groupOf, cX10_groupOf, 2, (Option.some Jvm.ClassFile.FieldType.int), [])
abbrev jX10_countOf : jY := (yX10_countOf, cX10_countOf, 2, (Option.some Jvm.ClassFile.FieldType.int), [])
abbrev jX10_longOf : jY := (yX10_longOf, cX10_longOf, 3, (Option.some Jvm.ClassFile.FieldType.int), [])
abbrev jX10_charOf : jY := (yX10_charOf, cX10_charOf, 4, (Option.some Jvm.ClassFile.FieldType.int), [])
abbrev jX10_isOut : jY := (yX10_isOut, cX10_isOut, 2, (Option.some Jvm.ClassFile.FieldType.boolean), [])
abbrev jX10_clear : jY := (yX10_clear, cX10_clear, 3, (Option.some Jvm.ClassFile.FieldType.int), [])
abbrev jX10_append : jY := (yX10_append, cX10_append, 5, (Option.some Jvm.ClassFile.FieldType.int), [])
abbrev jX10_wrongField : jY := (yX10_wrongField, cX10_wrongField, 2, (Option.some Jvm.ClassFile.FieldType.int), [])
abbrev jX10_errorPosition : jY := (yX10_errorPosition, cX10_errorPosition, 1, (Option.some Jvm.ClassFile.FieldType.int), [])
abbrev jX10_addRecord : jY := (yX10_addRecord, cX10_addRecord, 5, (Option.some Jvm.ClassFile.FieldType.int), [])
abbrev jX10_moves : jY := (yX10_moves, cX10_moves, 4, (Option.none : Option Jvm.ClassFile.FieldType), [])
abbrev jX10_removeRecord : jY := (yX10_removeRecord, cX10_removeRecord, 3, (Option.some Jvm.ClassFile.FieldType.int), [])
abbrev jX10_moveRecord : jY := (yX10_moveRecord, cX10_moveRecord, 4, (Option.some Jvm.ClassFile.FieldType.int), [])
abbrev jX10_capital : jY := (yX10_capital, cX10_capital, 1, (Option.some Jvm.ClassFile.FieldType.int), [])
abbrev jX10_compares : jY := (yX10_compares, cX10_compares, 6, (Option.some Jvm.ClassFile.FieldType.int), [])
abbrev jX10_comesAhead : jY := (yX10_comesAhead, cX10_comesAhead, 6, (Option.some Jvm.ClassFile.FieldType.boolean), [])
abbrev jX10_sort : jY := (yX10_sort, cX10_sort, 6, (Option.some Jvm.ClassFile.FieldType.int), [])
abbrev jX10_setField : jY := (yX10_setField, cX10_setField, 8, (Option.some Jvm.ClassFile.FieldType.int), [])
abbrev jX10_setNumber : jY := (yX10_setNumber, cX10_setNumber, 6, (Option.some Jvm.ClassFile.FieldType.int), [])
abbrev jX10_field : jY := (yX10_field, cX10_field, 4, (Option.some Jvm.ClassFile.FieldType.int), [])
abbrev jX10_small : jY := (yX10_small, cX10_small, 1, (Option.some Jvm.ClassFile.FieldType.int), [])
abbrev jX10_isHome : jY := (yX10_isHome, cX10_isHome, 4, (Option.some Jvm.ClassFile.FieldType.boolean), [])
abbrev jX10_isLine : jY := (yX10_isLine, cX10_isLine, 3, (Option.some Jvm.ClassFile.FieldType.boolean), [])
abbrev jX10_lines : jY := (yX10_lines, cX10_lines, 4, (Option.some Jvm.ClassFile.FieldType.int), [])
abbrev jX10_record : jY := (yX10_record, cX10_record, 5, (Option.some Jvm.ClassFile.FieldType.int), [])
abbrev jX10_here : jY := (yX10_here, cX10_here, 1, (Option.some Jvm.ClassFile.FieldType.int), [])
abbrev jX10_isNext : jY := (yX10_isNext, cX10_isNext, 2, (Option.some Jvm.ClassFile.FieldType.boolean), [])
abbrev jX10_wants : jY := (yX10_wants, cX10_wants, 2, (Option.none : Option Jvm.ClassFile.FieldType), [])
abbrev jX10_digit : jY := (yX10_digit, cX10_digit, 2, (Option.some Jvm.ClassFile.FieldType.int), [])
abbrev jX10_isLiteral : jY := (yX10_isLiteral, cX10_isLiteral, 1, (Option.some Jvm.ClassFile.FieldType.boolean), [])
abbrev jX10_lays : jY := (yX10_lays, cX10_lays, 3, (Option.some Jvm.ClassFile.FieldType.int), [])
abbrev jX10_condition : jY := (yX10_condition, cX10_condition, 3, (Option.none : Option Jvm.ClassFile.FieldType), [])
abbrev jX10_bracket : jY := (yX10_bracket, cX10_bracket, 2, (Option.none : Option Jvm.ClassFile.FieldType), [])
abbrev jX10_item : jY := (yX10_item, cX10_item, 4, (Option.none : Option Jvm.ClassFile.FieldType), [])
abbrev jX10_reads : jY := (yX10_reads, cX10_reads, 1, (Option.none : Option Jvm.ClassFile.FieldType), [])
abbrev jX10_readsTemplate : jY := (yX10_readsTemplate, cX10_readsTemplate, 2, (Option.none : Option Jvm.ClassFile.FieldType), [])
abbrev jX10_setTemplate : jY := (yX10_setTemplate, cX10_setTemplate, 2, (Option.some Jvm.ClassFile.FieldType.int), [])
abbrev jX10_template : jY := (yX10_template, cX10_template, 5, (Option.some Jvm.ClassFile.FieldType.int), [])
abbrev jX10_deepOf : jY := (yX10_deepOf, cX10_deepOf, 4, (Option.some Jvm.ClassFile.FieldType.int), [])
abbrev jX10_item_ : jY := (yX10_item_, cX10_item_, 4, (Option.some Jvm.ClassFile.FieldType.int), [])
abbrev jX10_counts : jY := (yX10_counts, cX10_counts, 6, (Option.some Jvm.ClassFile.FieldType.boolean), [])
abbrev jX10_setHome : jY := (yX10_setHome, cX10_setHome, 5, (Option.some Jvm.ClassFile.FieldType.int), [])
abbrev jX10_sets : jY := (yX10_sets, cX10_sets, 6, (Option.some Jvm.ClassFile.FieldType.int), [])
abbrev jX10_setKeys : jY := (yX10_setKeys, cX10_setKeys, 2, (Option.some Jvm.ClassFile.FieldType.int), [])
abbrev jX10_setPolicy : jY := (yX10_setPolicy, cX10_setPolicy, 2, (Option.some Jvm.ClassFile.FieldType.int), [])
abbrev jX10_setLimit : jY := (yX10_setLimit, cX10_setLimit, 2, (Option.some Jvm.ClassFile.FieldType.int), [])
abbrev jX10_exclude : jY := (yX10_exclude, cX10_exclude, 4, (Option.some Jvm.ClassFile.FieldType.boolean), [])
abbrev jX10_setting : jY := (yX10_setting, cX10_setting, 2, (Option.some Jvm.ClassFile.FieldType.int), [])
abbrev jX10_holds : jY := (yX10_holds, cX10_holds, 6, (Option.some Jvm.ClassFile.FieldType.boolean), [])
abbrev jX10_hasRoom : jY := (yX10_hasRoom, cX10_hasRoom, 2, (Option.some Jvm.ClassFile.FieldType.boolean), [])
abbrev jX10_writes : jY := (yX10_writes, cX10_writes, 2, (Option.none : Option Jvm.ClassFile.FieldType), [])
abbrev jX10_addressLong : jY := (yX10_addressLong, cX10_addressLong, 4, (Option.some Jvm.ClassFile.FieldType.int), [])
abbrev jX10_writesAddress : jY := (yX10_writesAddress, cX10_writesAddress, 5, (Option.none : Option Jvm.ClassFile.FieldType), [])
abbrev jX10_writesField : jY := (yX10_writesField, cX10_writesField, 6, (Option.none : Option Jvm.ClassFile.FieldType), [])
abbrev jX10_gives : jY := (yX10_gives, cX10_gives, 8, (Option.some Jvm.ClassFile.FieldType.int), [])
abbrev jX10_makes : jY := (yX10_makes, cX10_makes, 5, (Option.some Jvm.ClassFile.FieldType.int), [])
abbrev jX10_isSame : jY := (yX10_isSame, cX10_isSame, 6, (Option.some Jvm.ClassFile.FieldType.boolean), [])
abbrev jX10_areLike : jY := (yX10_areLike, cX10_areLike, 5, (Option.some Jvm.ClassFile.FieldType.boolean), [])
abbrev jX10_keptOf : jY := (yX10_keptOf, cX10_keptOf, 7, (Option.some Jvm.ClassFile.FieldType.int), [])
abbrev jX10_reasonOf : jY := (yX10_reasonOf, cX10_reasonOf, 4, (Option.some Jvm.ClassFile.FieldType.int), [])
abbrev jX10_kept : jY := (yX10_kept, cX10_kept, 2, (Option.some Jvm.ClassFile.FieldType.int), [])
abbrev jX10_preview : jY := (yX10_preview, cX10_preview, 3, (Option.some Jvm.ClassFile.FieldType.int), [])
abbrev jX10_isOrderFree : jY := (yX10_isOrderFree, cX10_isOrderFree, 7, (Option.some Jvm.ClassFile.FieldType.boolean), [])
abbrev jX10_keepsChain : jY := (yX10_keepsChain, cX10_keepsChain, 4, (Option.none : Option Jvm.ClassFile.FieldType), [])
abbrev jX10_run : jY := (yX10_run, cX10_run, 4, (Option.some Jvm.ClassFile.FieldType.int), [])
abbrev jX10_unasked : jY := (yX10_unasked, cX10_unasked, 2, (Option.some Jvm.ClassFile.FieldType.int), [])
abbrev jX10_reason : jY := (yX10_reason, cX10_reason, 2, (Option.some Jvm.ClassFile.FieldType.int), [])
abbrev jX10_ranWith : jY := (yX10_ranWith, cX10_ranWith, 4, (Option.some Jvm.ClassFile.FieldType.int), [])
abbrev jX10_reasons : jY := (yX10_reasons, cX10_reasons, 2, (Option.some Jvm.ClassFile.FieldType.int), [])
abbrev jX10_letter : jY := (yX10_letter, cX10_letter, 3, (Option.some Jvm.ClassFile.FieldType.int), [])
abbrev jX10_chain : jY := (yX10_chain, cX10_chain, 3, (Option.some Jvm.ClassFile.FieldType.int), [])
abbrev jX10_meanLength : jY := (yX10_meanLength, cX10_meanLength, 3, (Option.some Jvm.ClassFile.FieldType.double), [])
abbrev jX10_share : jY := (yX10_share, cX10_share, 1, (Option.some Jvm.ClassFile.FieldType.float), [])
abbrev jX10_undo : jY := (yX10_undo, cX10_undo, 1, (Option.some Jvm.ClassFile.FieldType.int), [])
abbrev jX10_snapshot : jY := (yX10_snapshot, cX10_snapshot, 1, (Option.some Jvm.ClassFile.FieldType.int), [])
abbrev jX10_restore : jY := (yX10_restore, cX10_restore, 1, (Option.some Jvm.ClassFile.FieldType.int), [])
abbrev jJ5_init_d00df : jY := (yJ5_init_d00df, cJ5_init_d00df, 2, (Option.none : Option Jvm.ClassFile.FieldType), [])
abbrev jJ5_length_8abf5 : jY := (yJ5_length_8abf5, cJ5_length_8abf5, 1, (Option.some Jvm.ClassFile.FieldType.int), [])
abbrev jJ5_ensureCapacityInternal_d00df : jY := (yJ5_ensureCapacityInternal_d00df, cJ5_ensureCapacityInternal_d00df, 3, (Option.none : Option Jvm.ClassFile.FieldType), [])
abbrev jJ5_newCapacity_0f7a4 : jY := (yJ5_newCapacity_0f7a4, cJ5_newCapacity_0f7a4, 6, (Option.some Jvm.ClassFile.FieldType.int), [])
abbrev jJ5_inflate_da8c8 : jY := (yJ5_inflate_da8c8, cJ5_inflate_da8c8, 2, (Option.none : Option Jvm.ClassFile.FieldType), [])
abbrev jJ5_setLength_d00df : jY := (yJ5_setLength_d00df, cJ5_setLength_d00df, 2, (Option.none : Option Jvm.ClassFile.FieldType), [])
abbrev jJ5_append_cf1ce : jY := (yJ5_append_cf1ce, cJ5_append_cf1ce, 3, (Option.some (Jvm.ClassFile.FieldType.object "java/lang/AbstractStringBuilder")), [])
abbrev jJ5_appendNull_278bc : jY := (yJ5_appendNull_278bc, cJ5_appendNull_278bc, 3, (Option.some (Jvm.ClassFile.FieldType.object "java/lang/AbstractStringBuilder")), [])
abbrev jJ5_append_3fe6f : jY := (yJ5_append_3fe6f, cJ5_append_3fe6f, 2, (Option.some (Jvm.ClassFile.FieldType.object "java/lang/AbstractStringBuilder")), [])
abbrev jJ5_append_c97b9 : jY := (yJ5_append_c97b9, cJ5_append_c97b9, 4, (Option.some (Jvm.ClassFile.FieldType.object "java/lang/AbstractStringBuilder")), [])
abbrev jJ5_getValue_6d5f1 : jY := (yJ5_getValue_6d5f1, cJ5_getValue_6d5f1, 1, (Option.some (Jvm.ClassFile.FieldType.array Jvm.ClassFile.FieldType.byte)), [])
abbrev jJ5_isLatin1_aae02 : jY := (yJ5_isLatin1_aae02, cJ5_isLatin1_aae02, 1, (Option.some Jvm.ClassFile.FieldType.boolean), [])
abbrev jJ5_inflateIfNeededFor_a7421 : jY := (yJ5_inflateIfNeededFor_a7421, cJ5_inflateIfNeededFor_a7421, 2, (Option.none : Option Jvm.ClassFile.FieldType), [])
abbrev jJ5_putStringAt_47b60 : jY := (yJ5_putStringAt_47b60, cJ5_putStringAt_47b60, 3, (Option.none : Option Jvm.ClassFile.FieldType), [])
abbrev jJx00060_init_a7421 : jY := (yJx00060_init_a7421, cJx00060_init_a7421, 2, (Option.none : Option Jvm.ClassFile.FieldType), [])
abbrev jJx00060_init_d00df : jY := (yJx00060_init_d00df, cJx00060_init_d00df, 2, (Option.none : Option Jvm.ClassFile.FieldType), [])
abbrev jJ11_isValidCodePoint_9a6ad : jY := (yJ11_isValidCodePoint_9a6ad, cJ11_isValidCodePoint_9a6ad, 2, (Option.some Jvm.ClassFile.FieldType.boolean), [])
abbrev jJ11_highSurrogate_5068e : jY := (yJ11_highSurrogate_5068e, cJ11_highSurrogate_5068e, 1, (Option.some Jvm.ClassFile.FieldType.char), [])
abbrev jJ11_lowSurrogate_5068e : jY := (yJ11_lowSurrogate_5068e, cJ11_lowSurrogate_5068e, 1, (Option.some Jvm.ClassFile.FieldType.char), [])
abbrev jJ6_getChars_ba4f3 : jY := (yJ6_getChars_ba4f3, cJ6_getChars_ba4f3, 7, (Option.some Jvm.ClassFile.FieldType.int), [])
abbrev jJ6_stringSize_0f7a4 : jY := (yJ6_stringSize_0f7a4, cJ6_stringSize_0f7a4, 4, (Option.some Jvm.ClassFile.FieldType.int), [])
abbrev jJ6_bitCount_0f7a4 : jY := (yJ6_bitCount_0f7a4, cJ6_bitCount_0f7a4, 1, (Option.some Jvm.ClassFile.FieldType.int), [])
abbrev jJ9_abs_0f7a4 : jY := (yJ9_abs_0f7a4, cJ9_abs_0f7a4, 1, (Option.some Jvm.ClassFile.FieldType.int), [])
abbrev jJ9_max_7cf53 : jY := (yJ9_max_7cf53, cJ9_max_7cf53, 2, (Option.some Jvm.ClassFile.FieldType.int), [])
abbrev jJ9_min_7cf53 : jY := (yJ9_min_7cf53, cJ9_min_7cf53, 2, (Option.some Jvm.ClassFile.FieldType.int), [])
abbrev jJ0_init_81219 : jY := (yJ0_init_81219, cJ0_init_81219, 2, (Option.none : Option Jvm.ClassFile.FieldType), [])
abbrev jJ0_length_8abf5 : jY := (yJ0_length_8abf5, cJ0_length_8abf5, 1, (Option.some Jvm.ClassFile.FieldType.int), [])
abbrev jJ0_isEmpty_aae02 : jY := (yJ0_isEmpty_aae02, cJ0_isEmpty_aae02, 1, (Option.some Jvm.ClassFile.FieldType.boolean), [])
abbrev jJ0_charAt_5068e : jY := (yJ0_charAt_5068e, cJ0_charAt_5068e, 2, (Option.some Jvm.ClassFile.FieldType.char), [])
abbrev jJ0_indexOf_0f7a4 : jY := (yJ0_indexOf_0f7a4, cJ0_indexOf_0f7a4, 2, (Option.some Jvm.ClassFile.FieldType.int), [])
abbrev jJ0_indexOf_7cf53 : jY := (yJ0_indexOf_7cf53, cJ0_indexOf_7cf53, 3, (Option.some Jvm.ClassFile.FieldType.int), [])
abbrev jJ0_substring_37a41 : jY := (yJ0_substring_37a41, cJ0_substring_37a41, 5, (Option.some (Jvm.ClassFile.FieldType.object "java/lang/String")), [])
abbrev jJ0_getBytes_840e7 : jY := (yJ0_getBytes_840e7, cJ0_getBytes_840e7, 4, (Option.none : Option Jvm.ClassFile.FieldType), [])
abbrev jJ0_init_db425 : jY := (yJ0_init_db425, cJ0_init_db425, 5, (Option.none : Option Jvm.ClassFile.FieldType), [])
abbrev jJ0_init_031fb : jY := (yJ0_init_031fb, cJ0_init_031fb, 3, (Option.none : Option Jvm.ClassFile.FieldType), [])
abbrev jJ0_coder_7d493 : jY := (yJ0_coder_7d493, cJ0_coder_7d493, 1, (Option.some Jvm.ClassFile.FieldType.byte), [])
abbrev jJ0_isLatin1_aae02 : jY := (yJ0_isLatin1_aae02, cJ0_isLatin1_aae02, 1, (Option.some Jvm.ClassFile.FieldType.boolean), [])
abbrev jJ0_checkIndex_df160 : jY := (yJ0_checkIndex_df160, cJ0_checkIndex_df160, 2, (Option.none : Option Jvm.ClassFile.FieldType), [])
abbrev jJ0_checkBoundsOffCount_cabcc : jY := (yJ0_checkBoundsOffCount_cabcc, cJ0_checkBoundsOffCount_cabcc, 3, (Option.some Jvm.ClassFile.FieldType.int), [])
abbrev jJ0_checkBoundsBeginEnd_23922 : jY := (yJ0_checkBoundsBeginEnd_23922, cJ0_checkBoundsBeginEnd_23922, 3, (Option.none : Option Jvm.ClassFile.FieldType), [])
abbrev jJ4_init_da8c8 : jY := (yJ4_init_da8c8, cJ4_init_da8c8, 1, (Option.none : Option Jvm.ClassFile.FieldType), [])
abbrev jJ4_append_15ec4 : jY := (yJ4_append_15ec4, cJ4_append_15ec4, 2, (Option.some (Jvm.ClassFile.FieldType.object "java/lang/StringBuilder")), [])
abbrev jJ4_append_cf468 : jY := (yJ4_append_cf468, cJ4_append_cf468, 2, (Option.some (Jvm.ClassFile.FieldType.object "java/lang/StringBuilder")), [])
abbrev jJ4_append_bf812 : jY := (yJ4_append_bf812, cJ4_append_bf812, 2, (Option.some (Jvm.ClassFile.FieldType.object "java/lang/StringBuilder")), [])
abbrev jJ4_toString_0e30d : jY := (yJ4_toString_0e30d, cJ4_toString_0e30d, 1, (Option.some (Jvm.ClassFile.FieldType.object "java/lang/String")), [])
abbrev jJ4_setLength_d00df : jY := (yJ4_setLength_d00df, cJ4_setLength_d00df, 2, (Option.none : Option Jvm.ClassFile.FieldType), [])
abbrev jJ4_length_8abf5 : jY := (yJ4_length_8abf5, cJ4_length_8abf5, 1, (Option.some Jvm.ClassFile.FieldType.int), [])
abbrev jJx7c733_init_d00df : jY := (yJx7c733_init_d00df, cJx7c733_init_d00df, 2, (Option.none : Option Jvm.ClassFile.FieldType), [])
abbrev jJ1_charAt_3b067 : jY := (yJ1_charAt_3b067, cJ1_charAt_3b067, 2, (Option.some Jvm.ClassFile.FieldType.char), [])
abbrev jJ1_canEncode_fc78d : jY := (yJ1_canEncode_fc78d, cJ1_canEncode_fc78d, 1, (Option.some Jvm.ClassFile.FieldType.boolean), [])
abbrev jJ1_canEncode_9a6ad : jY := (yJ1_canEncode_9a6ad, cJ1_canEncode_9a6ad, 1, (Option.some Jvm.ClassFile.FieldType.boolean), [])
abbrev jJ1_indexOf_4cfef : jY := (yJ1_indexOf_4cfef, cJ1_indexOf_4cfef, 4, (Option.some Jvm.ClassFile.FieldType.int), [])
abbrev jJ1_indexOfChar_4cfef : jY := (yJ1_indexOfChar_4cfef, cJ1_indexOfChar_4cfef, 6, (Option.some Jvm.ClassFile.FieldType.int), [])
abbrev jJ1_newString_b4f7a : jY := (yJ1_newString_b4f7a, cJ1_newString_b4f7a, 3, (Option.some (Jvm.ClassFile.FieldType.object "java/lang/String")), [])
abbrev jJ1_fillNull_b72d1 : jY := (yJ1_fillNull_b72d1, cJ1_fillNull_b72d1, 3, (Option.none : Option Jvm.ClassFile.FieldType), [])
abbrev jJ1_inflate_0e8fd : jY := (yJ1_inflate_0e8fd, cJ1_inflate_0e8fd, 5, (Option.none : Option Jvm.ClassFile.FieldType), [])
abbrev jJ2_newBytesFor_77867 : jY := (yJ2_newBytesFor_77867, cJ2_newBytesFor_77867, 1, (Option.some (Jvm.ClassFile.FieldType.array Jvm.ClassFile.FieldType.byte)), [])
abbrev jJ2_newBytesLength_0f7a4 : jY := (yJ2_newBytesLength_0f7a4, cJ2_newBytesLength_0f7a4, 1, (Option.some Jvm.ClassFile.FieldType.int), [])
abbrev jJ2_putChar_b72d1 : jY := (yJ2_putChar_b72d1, cJ2_putChar_b72d1, 3, (Option.none : Option Jvm.ClassFile.FieldType), [])
abbrev jJ2_getChar_3b067 : jY := (yJ2_getChar_3b067, cJ2_getChar_3b067, 2, (Option.some Jvm.ClassFile.FieldType.char), [])
abbrev jJ2_length_9d52b : jY := (yJ2_length_9d52b, cJ2_length_9d52b, 1, (Option.some Jvm.ClassFile.FieldType.int), [])
abbrev jJ2_coderFromArrayLen_85cad : jY := (yJ2_coderFromArrayLen_85cad, cJ2_coderFromArrayLen_85cad, 2, (Option.some Jvm.ClassFile.FieldType.byte), [])
abbrev jJ2_compress_39247 : jY := (yJ2_compress_39247, cJ2_compress_39247, 6, (Option.some (Jvm.ClassFile.FieldType.array Jvm.ClassFile.FieldType.byte)), [])
abbrev jJ2_compress_5af95 : jY := (yJ2_compress_5af95, cJ2_compress_5af95, 7, (Option.some Jvm.ClassFile.FieldType.int), [])
abbrev jJ2_indexOf_4cfef : jY := (yJ2_indexOf_4cfef, cJ2_indexOf_4cfef, 4, (Option.some Jvm.ClassFile.FieldType.int), [])
abbrev jJ2_indexOfChar_4cfef : jY := (yJ2_indexOfChar_4cfef, cJ2_indexOfChar_4cfef, 4, (Option.some Jvm.ClassFile.FieldType.int), [])
abbrev jJ2_indexOfCharUnsafe_4cfef : jY := (yJ2_indexOfCharUnsafe_4cfef, cJ2_indexOfCharUnsafe_4cfef, 5, (Option.some Jvm.ClassFile.FieldType.int), [])
abbrev jJ2_indexOfSupplementary_4cfef : jY := (yJ2_indexOfSupplementary_4cfef, cJ2_indexOfSupplementary_4cfef, 7, (Option.some Jvm.ClassFile.FieldType.int), [])
abbrev jJ2_newString_b4f7a : jY := (yJ2_newString_b4f7a, cJ2_newString_b4f7a, 5, (Option.some (Jvm.ClassFile.FieldType.object "java/lang/String")), [])
abbrev jJ2_fillNull_b72d1 : jY := (yJ2_fillNull_b72d1, cJ2_fillNull_b72d1, 3, (Option.none : Option Jvm.ClassFile.FieldType), [])
abbrev jJ2_putCharSB_b72d1 : jY := (yJ2_putCharSB_b72d1, cJ2_putCharSB_b72d1, 3, (Option.none : Option Jvm.ClassFile.FieldType), [])
abbrev jJ2_getChars_46870 : jY := (yJ2_getChars_46870, cJ2_getChars_46870, 5, (Option.some Jvm.ClassFile.FieldType.int), [])
abbrev jJ2_putCharsAt_cd4e5 : jY := (yJ2_putCharsAt_cd4e5, cJ2_putCharsAt_cd4e5, 7, (Option.some Jvm.ClassFile.FieldType.int), [])
abbrev jJ2_charAt_3b067 : jY := (yJ2_charAt_3b067, cJ2_charAt_3b067, 2, (Option.some Jvm.ClassFile.FieldType.char), [])
abbrev jJ2_inflate_0e8fd : jY := (yJ2_inflate_0e8fd, cJ2_inflate_0e8fd, 6, (Option.none : Option Jvm.ClassFile.FieldType), [])
abbrev jJ2_getChars_ba4f3 : jY := (yJ2_getChars_ba4f3, cJ2_getChars_ba4f3, 7, (Option.some Jvm.ClassFile.FieldType.int), [])
abbrev jJ2_checkIndex_2214a : jY := (yJ2_checkIndex_2214a, cJ2_checkIndex_2214a, 2, (Option.none : Option Jvm.ClassFile.FieldType), [])
abbrev jJ2_checkBoundsBeginEnd_d044e : jY := (yJ2_checkBoundsBeginEnd_d044e, cJ2_checkBoundsBeginEnd_d044e, 3, (Option.none : Option Jvm.ClassFile.FieldType), [])
abbrev jJ2_checkBoundsOffCount_d044e : jY := (yJ2_checkBoundsOffCount_d044e, cJ2_checkBoundsOffCount_d044e, 3, (Option.none : Option Jvm.ClassFile.FieldType), [])
abbrev jJ7_rangeCheck_23922 : jY := (yJ7_rangeCheck_23922, cJ7_rangeCheck_23922, 3, (Option.none : Option Jvm.ClassFile.FieldType), [])
abbrev jJ7_fill_eb02e : jY := (yJ7_fill_eb02e, cJ7_fill_eb02e, 5, (Option.none : Option Jvm.ClassFile.FieldType), [])
abbrev jJ7_copyOf_9075b : jY := (yJ7_copyOf_9075b, cJ7_copyOf_9075b, 3, (Option.some (Jvm.ClassFile.FieldType.array Jvm.ClassFile.FieldType.byte)), [])
abbrev jJ7_checkLength_df160 : jY := (yJ7_checkLength_df160, cJ7_checkLength_df160, 2, (Option.none : Option Jvm.ClassFile.FieldType), [])
abbrev jJ7_copyOfRange_39247 : jY := (yJ7_copyOfRange_39247, cJ7_copyOfRange_39247, 3, (Option.some (Jvm.ClassFile.FieldType.array Jvm.ClassFile.FieldType.byte)), [])
abbrev jJ7_copyOfRangeByte_39247 : jY := (yJ7_copyOfRangeByte_39247, cJ7_copyOfRangeByte_39247, 5, (Option.some (Jvm.ClassFile.FieldType.array Jvm.ClassFile.FieldType.byte)), [])
abbrev jJ8_newLength_cabcc : jY := (yJ8_newLength_cabcc, cJ8_newLength_cabcc, 4, (Option.some Jvm.ClassFile.FieldType.int), [])
abbrev jJ8_hugeLength_7cf53 : jY := (yJ8_hugeLength_7cf53, cJ8_hugeLength_7cf53, 3, (Option.some Jvm.ClassFile.FieldType.int), [])
abbrev jJ3_checkIndex_8e157 : jY := (yJ3_checkIndex_8e157, cJ3_checkIndex_8e157, 3, (Option.some Jvm.ClassFile.FieldType.int), [])
abbrev jJ3_checkFromToIndex_8c36e : jY := (yJ3_checkFromToIndex_8c36e, cJ3_checkFromToIndex_8c36e, 4, (Option.some Jvm.ClassFile.FieldType.int), [])
abbrev jJ3_checkFromIndexSize_8c36e : jY := (yJ3_checkFromIndexSize_8c36e, cJ3_checkFromIndexSize_8c36e, 4, (Option.some Jvm.ClassFile.FieldType.int), [])
abbrev jL_append : jY := (yL_append, cL_append, 4, (Option.some Jvm.ClassFile.FieldType.int), [(0, 9, 12, 13), (0, 9, 15, 15)])
abbrev jL_addRecord : jY := (yL_addRecord, cL_addRecord, 5, (Option.some Jvm.ClassFile.FieldType.int), [(0, 10, 13, 13), (0, 10, 17, 15)])
abbrev jL_removeRecord : jY := (yL_removeRecord, cL_removeRecord, 4, (Option.some Jvm.ClassFile.FieldType.int), [(0, 9, 12, 24)])
abbrev jL_moveRecord : jY := (yL_moveRecord, cL_moveRecord, 5, (Option.some Jvm.ClassFile.FieldType.int), [(0, 10, 13, 24)])
abbrev jL_sort : jY := (yL_sort, cL_sort, 5, (Option.some Jvm.ClassFile.FieldType.int), [(0, 10, 13, 24)])
abbrev jL_setField : jY := (yL_setField, cL_setField, 5, (Option.some Jvm.ClassFile.FieldType.int), [(0, 10, 13, 24), (0, 10, 17, 13)])
abbrev jL_setNumber : jY := (yL_setNumber, cL_setNumber, 6, (Option.some Jvm.ClassFile.FieldType.int), [(0, 12, 15, 24), (0, 12, 19, 13)])
abbrev jL_field : jY := (yL_field, cL_field, 6, (Option.some Jvm.ClassFile.FieldType.int), [(0, 12, 15, 24), (0, 12, 19, 44)])
abbrev jL_record : jY := (yL_record, cL_record, 5, (Option.some Jvm.ClassFile.FieldType.int), [(0, 10, 13, 24), (0, 10, 17, 13)])
abbrev jL_setTemplate : jY := (yL_setTemplate, cL_setTemplate, 3, (Option.some Jvm.ClassFile.FieldType.int), [(0, 8, 11, 13)])
abbrev jL_errorPosition : jY := (yL_errorPosition, cL_errorPosition, 3, (Option.some Jvm.ClassFile.FieldType.int), [(0, 8, 11, 44)])
abbrev jL_template : jY := (yL_template, cL_template, 4, (Option.some Jvm.ClassFile.FieldType.int), [(0, 9, 12, 13)])
abbrev jL_item : jY := (yL_item, cL_item, 5, (Option.some Jvm.ClassFile.FieldType.int), [(0, 10, 13, 44), (0, 10, 17, 13)])
abbrev jL_counts : jY := (yL_counts, cL_counts, 5, (Option.some Jvm.ClassFile.FieldType.int), [(0, 17, 20, 24), (0, 17, 24, 44)])
abbrev jL_setHome : jY := (yL_setHome, cL_setHome, 3, (Option.some Jvm.ClassFile.FieldType.int), [(0, 8, 11, 13)])
abbrev jL_setKeys : jY := (yL_setKeys, cL_setKeys, 4, (Option.some Jvm.ClassFile.FieldType.int), [(0, 9, 12, 13)])
abbrev jL_setPolicy : jY := (yL_setPolicy, cL_setPolicy, 4, (Option.some Jvm.ClassFile.FieldType.int), [(0, 9, 12, 13)])
abbrev jL_exclude : jY := (yL_exclude, cL_exclude, 5, (Option.some Jvm.ClassFile.FieldType.int), [(0, 17, 20, 24)])
abbrev jL_setLimit : jY := (yL_setLimit, cL_setLimit, 4, (Option.some Jvm.ClassFile.FieldType.int), [(0, 9, 12, 13)])
abbrev jL_setting : jY := (yL_setting, cL_setting, 4, (Option.some Jvm.ClassFile.FieldType.int), [(0, 9, 12, 13)])
abbrev jL_run : jY := (yL_run, cL_run, 3, (Option.some Jvm.ClassFile.FieldType.int), [(0, 8, 11, 15)])
abbrev jL_reason : jY := (yL_reason, cL_reason, 4, (Option.some Jvm.ClassFile.FieldType.int), [(0, 9, 12, 15), (0, 9, 15, 24)])
abbrev jL_reasons : jY := (yL_reasons, cL_reasons, 4, (Option.some Jvm.ClassFile.FieldType.int), [(0, 9, 12, 15), (0, 9, 15, 13)])
abbrev jL_letter : jY := (yL_letter, cL_letter, 5, (Option.some Jvm.ClassFile.FieldType.int), [(0, 10, 13, 15), (0, 10, 17, 24), (0, 10, 21, 97), (0, 10, 25, 44)])
abbrev jL_chain : jY := (yL_chain, cL_chain, 5, (Option.some Jvm.ClassFile.FieldType.int), [(0, 10, 13, 15), (0, 10, 17, 24), (0, 10, 21, 97), (0, 10, 25, 44)])
abbrev jL_kept : jY := (yL_kept, cL_kept, 4, (Option.some Jvm.ClassFile.FieldType.int), [(0, 9, 12, 24), (0, 9, 15, 97)])
abbrev jL_preview : jY := (yL_preview, cL_preview, 4, (Option.some Jvm.ClassFile.FieldType.int), [(0, 9, 12, 24)])
abbrev jL_meanLength : jY := (yL_meanLength, cL_meanLength, 3, (Option.some Jvm.ClassFile.FieldType.int), [(0, 7, 10, 15), (0, 7, 13, 112)])
abbrev jL_share : jY := (yL_share, cL_share, 3, (Option.some Jvm.ClassFile.FieldType.int), [(0, 8, 11, 15)])
abbrev jL_undo : jY := (yL_undo, cL_undo, 3, (Option.some Jvm.ClassFile.FieldType.int), [(0, 8, 11, 15)])
abbrev jL_restore : jY := (yL_restore, cL_restore, 3, (Option.some Jvm.ClassFile.FieldType.int), [(0, 8, 11, 15)])
theorem jh_X0_init : jMh jX0_init 4 := ⟨jWs_of 1270 (by decide +kernel) rfl, jWs_of 106 (by decide +kernel) rfl, by decide +kernel, by decide +kernel, by decide +kernel, by decide⟩
theorem jh_X0_isTrueFor : jMh jX0_isTrueFor 1 := ⟨jWs_of 1352 (by decide +kernel) rfl, jWs_of 106 (by decide +kernel) rfl, by decide +kernel, by decide +kernel, by decide +kernel, by decide⟩
theorem jh_X0_holdsFor : jMh jX0_holdsFor 1 := ⟨jWs_of 1356 (by decide +kernel) rfl, jWs_of 106 (by decide +kernel) rfl, by decide +kernel, by decide +kernel, by decide +kernel, by decide⟩
theorem jh_X1_init : jMh jX1_init 2 := ⟨jWs_of 649 (by decide +kernel) rfl, jWs_of 96 (by decide +kernel) rfl, by decide +kernel, by decide +kernel, by decide +kernel, by decide⟩
theorem jh_X1_init_ : jMh jX1_init_ 3 := ⟨jWs_of 654 (by decide +kernel) rfl, jWs_of 96 (by decide +kernel) rfl, by decide +kernel, by decide +kernel, by decide +kernel, by decide⟩
theorem jh_X1_withGroup : jMh jX1_withGroup 1 := ⟨jWs_of 991 (by decide +kernel) rfl, jWs_of 96 (by decide +kernel) rfl, by decide +kernel, by decide +kernel, by decide +kernel, by decide⟩
theorem jh_X1_withCount : jMh jX1_withCount 1 := ⟨jWs_of 987 (by decide +kernel) rfl, jWs_of 96 (by decide +kernel) rfl, by decide +kernel, by decide +kernel, by decide +kernel, by decide⟩
theorem jh_X1_withText : jMh jX1_withText 2 := ⟨jWs_of 968 (by decide +kernel) rfl, jWs_of 96 (by decide +kernel) rfl, by decide +kernel, by decide +kernel, by decide +kernel, by decide⟩
theorem jh_X1_textAt : jMh jX1_textAt 1 := ⟨jWs_of 365 (by decide +kernel) rfl, jWs_of 96 (by decide +kernel) rfl, by decide +kernel, by decide +kernel, by decide +kernel, by decide⟩
theorem jh_X1_filledFields : jMh jX1_filledFields 0 := ⟨jWs_of 1030 (by decide +kernel) rfl, jWs_of 96 (by decide +kernel) rfl, by decide +kernel, by decide +kernel, by decide +kernel, by decide⟩
theorem jh_X2_init : jMh jX2_init 1 := ⟨jWs_of 166 (by decide +kernel) rfl, jWs_of 80 (by decide +kernel) rfl, by decide +kernel, by decide +kernel, by decide +kernel, by decide⟩
theorem jh_X2_addLast : jMh jX2_addLast 1 := ⟨jWs_of 1159 (by decide +kernel) rfl, jWs_of 80 (by decide +kernel) rfl, by decide +kernel, by decide +kernel, by decide +kernel, by decide⟩
theorem jh_X2_pieceAt : jMh jX2_pieceAt 1 := ⟨jWs_of 1302 (by decide +kernel) rfl, jWs_of 80 (by decide +kernel) rfl, by decide +kernel, by decide +kernel, by decide +kernel, by decide⟩
theorem jh_X3_init : jMh jX3_init 0 := ⟨jWs_of 255 (by decide +kernel) rfl, jWs_of 83 (by decide +kernel) rfl, by decide +kernel, by decide +kernel, by decide +kernel, by decide⟩
theorem jh_X3_makeFrom : jMh jX3_makeFrom 1 := ⟨jWs_of 1417 (by decide +kernel) rfl, jWs_of 83 (by decide +kernel) rfl, by decide +kernel, by decide +kernel, by decide +kernel, by decide⟩
theorem jh_X3_howMany : jMh jX3_howMany 1 := ⟨jWs_of 1473 (by decide +kernel) rfl, jWs_of 83 (by decide +kernel) rfl, by decide +kernel, by decide +kernel, by decide +kernel, by decide⟩
theorem jh_X3_totalLength : jMh jX3_totalLength 0 := ⟨jWs_of 1576 (by decide +kernel) rfl, jWs_of 83 (by decide +kernel) rfl, by decide +kernel, by decide +kernel, by decide +kernel, by decide⟩
theorem jh_X4_init : jMh jX4_init 4 := ⟨jWs_of 1098 (by decide +kernel) rfl, jWs_of 104 (by decide +kernel) rfl, by decide +kernel, by decide +kernel, by decide +kernel, by decide⟩
theorem jh_X4_isMetBy : jMh jX4_isMetBy 1 := ⟨jWs_of 1348 (by decide +kernel) rfl, jWs_of 104 (by decide +kernel) rfl, by decide +kernel, by decide +kernel, by decide +kernel, by decide⟩
theorem jh_X5_init : jMh jX5_init 0 := ⟨jWs_of 154 (by decide +kernel) rfl, jWs_of 79 (by decide +kernel) rfl, by decide +kernel, by decide +kernel, by decide +kernel, by decide⟩
theorem jh_X5_reset : jMh jX5_reset 0 := ⟨jWs_of 161 (by decide +kernel) rfl, jWs_of 79 (by decide +kernel) rfl, by decide +kernel, by decide +kernel, by decide +kernel, by decide⟩
theorem jh_X5_copyFrom : jMh jX5_copyFrom 1 := ⟨jWs_of 443 (by decide +kernel) rfl, jWs_of 79 (by decide +kernel) rfl, by decide +kernel, by decide +kernel, by decide +kernel, by decide⟩
theorem jh_X5_entryAt : jMh jX5_entryAt 1 := ⟨jWs_of 353 (by decide +kernel) rfl, jWs_of 79 (by decide +kernel) rfl, by decide +kernel, by decide +kernel, by decide +kernel, by decide⟩
theorem jh_X5_addLast : jMh jX5_addLast 1 := ⟨jWs_of 678 (by decide +kernel) rfl, jWs_of 79 (by decide +kernel) rfl, by decide +kernel, by decide +kernel, by decide +kernel, by decide⟩
theorem jh_X5_replace : jMh jX5_replace 2 := ⟨jWs_of 973 (by decide +kernel) rfl, jWs_of 79 (by decide +kernel) rfl, by decide +kernel, by decide +kernel, by decide +kernel, by decide⟩
theorem jh_X5_removeAt : jMh jX5_removeAt 1 := ⟨jWs_of 731 (by decide +kernel) rfl, jWs_of 79 (by decide +kernel) rfl, by decide +kernel, by decide +kernel, by decide +kernel, by decide⟩
theorem jh_X5_moveTo : jMh jX5_moveTo 2 := ⟨jWs_of 735 (by decide +kernel) rfl, jWs_of 79 (by decide +kernel) rfl, by decide +kernel, by decide +kernel, by decide +kernel, by decide⟩
theorem jh_X5_sortBy : jMh jX5_sortBy 3 := ⟨jWs_of 761 (by decide +kernel) rfl, jWs_of 79 (by decide +kernel) rfl, by decide +kernel, by decide +kernel, by decide +kernel, by decide⟩
theorem jh_X5_comesBefore : jMh jX5_comesBefore 4 := ⟨jWs_of 765 (by decide +kernel) rfl, jWs_of 79 (by decide +kernel) rfl, by decide +kernel, by decide +kernel, by decide +kernel, by decide⟩
theorem jh_X5_addressFields : jMh jX5_addressFields 1 := ⟨jWs_of 1035 (by decide +kernel) rfl, jWs_of 79 (by decide +kernel) rfl, by decide +kernel, by decide +kernel, by decide +kernel, by decide⟩
theorem jh_X5_isExcluded : jMh jX5_isExcluded 1 := ⟨jWs_of 357 (by decide +kernel) rfl, jWs_of 79 (by decide +kernel) rfl, by decide +kernel, by decide +kernel, by decide +kernel, by decide⟩
theorem jh_X5_areDuplicates : jMh jX5_areDuplicates 2 := ⟨jWs_of 361 (by decide +kernel) rfl, jWs_of 79 (by decide +kernel) rfl, by decide +kernel, by decide +kernel, by decide +kernel, by decide⟩
theorem jh_X5_keptOf : jMh jX5_keptOf 3 := ⟨jWs_of 349 (by decide +kernel) rfl, jWs_of 79 (by decide +kernel) rfl, by decide +kernel, by decide +kernel, by decide +kernel, by decide⟩
theorem jh_X5_isBetter : jMh jX5_isBetter 3 := ⟨jWs_of 435 (by decide +kernel) rfl, jWs_of 79 (by decide +kernel) rfl, by decide +kernel, by decide +kernel, by decide +kernel, by decide⟩
theorem jh_X6_init : jMh jX6_init 0 := ⟨jWs_of 262 (by decide +kernel) rfl, jWs_of 84 (by decide +kernel) rfl, by decide +kernel, by decide +kernel, by decide +kernel, by decide⟩
theorem jh_X6_leaveBlank : jMh jX6_leaveBlank 1 := ⟨jWs_of 1424 (by decide +kernel) rfl, jWs_of 84 (by decide +kernel) rfl, by decide +kernel, by decide +kernel, by decide +kernel, by decide⟩
theorem jh_X6_write : jMh jX6_write 2 := ⟨jWs_of 1429 (by decide +kernel) rfl, jWs_of 84 (by decide +kernel) rfl, by decide +kernel, by decide +kernel, by decide +kernel, by decide⟩
theorem jh_X6_writePiece : jMh jX6_writePiece 3 := ⟨jWs_of 1437 (by decide +kernel) rfl, jWs_of 84 (by decide +kernel) rfl, by decide +kernel, by decide +kernel, by decide +kernel, by decide⟩
theorem jh_X6_put : jMh jX6_put 1 := ⟨jWs_of 1441 (by decide +kernel) rfl, jWs_of 84 (by decide +kernel) rfl, by decide +kernel, by decide +kernel, by decide +kernel, by decide⟩
theorem jh_X6_putAll : jMh jX6_putAll 1 := ⟨jWs_of 1455 (by decide +kernel) rfl, jWs_of 84 (by decide +kernel) rfl, by decide +kernel, by decide +kernel, by decide +kernel, by decide⟩
theorem jh_X6_putNumber : jMh jX6_putNumber 1 := ⟨jWs_of 1445 (by decide +kernel) rfl, jWs_of 84 (by decide +kernel) rfl, by decide +kernel, by decide +kernel, by decide +kernel, by decide⟩
theorem jh_X6_putField : jMh jX6_putField 2 := ⟨jWs_of 1461 (by decide +kernel) rfl, jWs_of 84 (by decide +kernel) rfl, by decide +kernel, by decide +kernel, by decide +kernel, by decide⟩
theorem jh_X6_putAddress : jMh jX6_putAddress 2 := ⟨jWs_of 1450 (by decide +kernel) rfl, jWs_of 84 (by decide +kernel) rfl, by decide +kernel, by decide +kernel, by decide +kernel, by decide⟩
theorem jh_X6_explain : jMh jX6_explain 2 := ⟨jWs_of 1469 (by decide +kernel) rfl, jWs_of 84 (by decide +kernel) rfl, by decide +kernel, by decide +kernel, by decide +kernel, by decide⟩
theorem jh_X7_init : jMh jX7_init 1 := ⟨jWs_of 1055 (by decide +kernel) rfl, jWs_of 103 (by decide +kernel) rfl, by decide +kernel, by decide +kernel, by decide +kernel, by decide⟩
theorem jh_X7_readAll : jMh jX7_readAll 0 := ⟨jWs_of 1084 (by decide +kernel) rfl, jWs_of 103 (by decide +kernel) rfl, by decide +kernel, by decide +kernel, by decide +kernel, by decide⟩
theorem jh_X7_readLiteral : jMh jX7_readLiteral 1 := ⟨jWs_of 1306 (by decide +kernel) rfl, jWs_of 103 (by decide +kernel) rfl, by decide +kernel, by decide +kernel, by decide +kernel, by decide⟩
theorem jh_X7_readBraces : jMh jX7_readBraces 0 := ⟨jWs_of 1163 (by decide +kernel) rfl, jWs_of 103 (by decide +kernel) rfl, by decide +kernel, by decide +kernel, by decide +kernel, by decide⟩
theorem jh_X7_readWords : jMh jX7_readWords 0 := ⟨jWs_of 1179 (by decide +kernel) rfl, jWs_of 103 (by decide +kernel) rfl, by decide +kernel, by decide +kernel, by decide +kernel, by decide⟩
theorem jh_X7_openBrackets : jMh jX7_openBrackets 0 := ⟨jWs_of 1261 (by decide +kernel) rfl, jWs_of 103 (by decide +kernel) rfl, by decide +kernel, by decide +kernel, by decide +kernel, by decide⟩
theorem jh_X7_closeBrackets : jMh jX7_closeBrackets 0 := ⟨jWs_of 1298 (by decide +kernel) rfl, jWs_of 103 (by decide +kernel) rfl, by decide +kernel, by decide +kernel, by decide +kernel, by decide⟩
theorem jh_X7_readCondition : jMh jX7_readCondition 1 := ⟨jWs_of 1265 (by decide +kernel) rfl, jWs_of 103 (by decide +kernel) rfl, by decide +kernel, by decide +kernel, by decide +kernel, by decide⟩
theorem jh_X7_takeRelation : jMh jX7_takeRelation 0 := ⟨jWs_of 1289 (by decide +kernel) rfl, jWs_of 103 (by decide +kernel) rfl, by decide +kernel, by decide +kernel, by decide +kernel, by decide⟩
theorem jh_X7_takeNumber : jMh jX7_takeNumber 0 := ⟨jWs_of 1293 (by decide +kernel) rfl, jWs_of 103 (by decide +kernel) rfl, by decide +kernel, by decide +kernel, by decide +kernel, by decide⟩
theorem jh_X7_takeField : jMh jX7_takeField 0 := ⟨jWs_of 1167 (by decide +kernel) rfl, jWs_of 103 (by decide +kernel) rfl, by decide +kernel, by decide +kernel, by decide +kernel, by decide⟩
theorem jh_X7_takeDigit : jMh jX7_takeDigit 1 := ⟨jWs_of 1171 (by decide +kernel) rfl, jWs_of 103 (by decide +kernel) rfl, by decide +kernel, by decide +kernel, by decide +kernel, by decide⟩
theorem jh_X7_take : jMh jX7_take 1 := ⟨jWs_of 1175 (by decide +kernel) rfl, jWs_of 103 (by decide +kernel) rfl, by decide +kernel, by decide +kernel, by decide +kernel, by decide⟩
theorem jh_X7_takeLiterals : jMh jX7_takeLiterals 0 := ⟨jWs_of 1183 (by decide +kernel) rfl, jWs_of 103 (by decide +kernel) rfl, by decide +kernel, by decide +kernel, by decide +kernel, by decide⟩
theorem jh_X7_sign : jMh jX7_sign 0 := ⟨jWs_of 1088 (by decide +kernel) rfl, jWs_of 103 (by decide +kernel) rfl, by decide +kernel, by decide +kernel, by decide +kernel, by decide⟩
theorem jh_X7_addPiece : jMh jX7_addPiece 1 := ⟨jWs_of 1093 (by decide +kernel) rfl, jWs_of 103 (by decide +kernel) rfl, by decide +kernel, by decide +kernel, by decide +kernel, by decide⟩
theorem jh_X7_isLiteral : jMh jX7_isLiteral 1 := ⟨jWs_of 1186 (by decide +kernel) rfl, jWs_of 103 (by decide +kernel) rfl, by decide +kernel, by decide +kernel, by decide +kernel, by decide⟩
theorem jh_X8_init : jMh jX8_init 1 := ⟨jWs_of 207 (by decide +kernel) rfl, jWs_of 82 (by decide +kernel) rfl, by decide +kernel, by decide +kernel, by decide +kernel, by decide⟩
theorem jh_X8_length : jMh jX8_length 0 := ⟨jWs_of 377 (by decide +kernel) rfl, jWs_of 82 (by decide +kernel) rfl, by decide +kernel, by decide +kernel, by decide +kernel, by decide⟩
theorem jh_X8_isEmpty : jMh jX8_isEmpty 0 := ⟨jWs_of 769 (by decide +kernel) rfl, jWs_of 82 (by decide +kernel) rfl, by decide +kernel, by decide +kernel, by decide +kernel, by decide⟩
theorem jh_X8_signAt : jMh jX8_signAt 1 := ⟨jWs_of 1019 (by decide +kernel) rfl, jWs_of 82 (by decide +kernel) rfl, by decide +kernel, by decide +kernel, by decide +kernel, by decide⟩
theorem jh_X8_isSameAs : jMh jX8_isSameAs 1 := ⟨jWs_of 373 (by decide +kernel) rfl, jWs_of 82 (by decide +kernel) rfl, by decide +kernel, by decide +kernel, by decide +kernel, by decide⟩
theorem jh_X8_compareWith : jMh jX8_compareWith 1 := ⟨jWs_of 390 (by decide +kernel) rfl, jWs_of 82 (by decide +kernel) rfl, by decide +kernel, by decide +kernel, by decide +kernel, by decide⟩
theorem jh_X8_capital : jMh jX8_capital 1 := ⟨jWs_of 432 (by decide +kernel) rfl, jWs_of 82 (by decide +kernel) rfl, by decide +kernel, by decide +kernel, by decide +kernel, by decide⟩
theorem jh_X9_init : jMh jX9_init 0 := ⟨jWs_of 113 (by decide +kernel) rfl, jWs_of 74 (by decide +kernel) rfl, by decide +kernel, by decide +kernel, by decide +kernel, by decide⟩
theorem jh_X9_clear : jMh jX9_clear 0 := ⟨jWs_of 340 (by decide +kernel) rfl, jWs_of 74 (by decide +kernel) rfl, by decide +kernel, by decide +kernel, by decide +kernel, by decide⟩
theorem jh_X9_append : jMh jX9_append 1 := ⟨jWs_of 452 (by decide +kernel) rfl, jWs_of 74 (by decide +kernel) rfl, by decide +kernel, by decide +kernel, by decide +kernel, by decide⟩
theorem jh_X9_addRecord : jMh jX9_addRecord 2 := ⟨jWs_of 628 (by decide +kernel) rfl, jWs_of 74 (by decide +kernel) rfl, by decide +kernel, by decide +kernel, by decide +kernel, by decide⟩
theorem jh_X9_removeRecord : jMh jX9_removeRecord 1 := ⟨jWs_of 709 (by decide +kernel) rfl, jWs_of 74 (by decide +kernel) rfl, by decide +kernel, by decide +kernel, by decide +kernel, by decide⟩
theorem jh_X9_moveRecord : jMh jX9_moveRecord 2 := ⟨jWs_of 742 (by decide +kernel) rfl, jWs_of 74 (by decide +kernel) rfl, by decide +kernel, by decide +kernel, by decide +kernel, by decide⟩
theorem jh_X9_sort : jMh jX9_sort 2 := ⟨jWs_of 753 (by decide +kernel) rfl, jWs_of 74 (by decide +kernel) rfl, by decide +kernel, by decide +kernel, by decide +kernel, by decide⟩
theorem jh_X9_setField : jMh jX9_setField 2 := ⟨jWs_of 781 (by decide +kernel) rfl, jWs_of 74 (by decide +kernel) rfl, by decide +kernel, by decide +kernel, by decide +kernel, by decide⟩
theorem jh_X9_setNumber : jMh jX9_setNumber 3 := ⟨jWs_of 982 (by decide +kernel) rfl, jWs_of 74 (by decide +kernel) rfl, by decide +kernel, by decide +kernel, by decide +kernel, by decide⟩
theorem jh_X9_field : jMh jX9_field 3 := ⟨jWs_of 999 (by decide +kernel) rfl, jWs_of 74 (by decide +kernel) rfl, by decide +kernel, by decide +kernel, by decide +kernel, by decide⟩
theorem jh_X9_record : jMh jX9_record 2 := ⟨jWs_of 1026 (by decide +kernel) rfl, jWs_of 74 (by decide +kernel) rfl, by decide +kernel, by decide +kernel, by decide +kernel, by decide⟩
theorem jh_X9_setTemplate : jMh jX9_setTemplate 0 := ⟨jWs_of 1050 (by decide +kernel) rfl, jWs_of 74 (by decide +kernel) rfl, by decide +kernel, by decide +kernel, by decide +kernel, by decide⟩
theorem jh_X9_errorPosition : jMh jX9_errorPosition 0 := ⟨jWs_of 1314 (by decide +kernel) rfl, jWs_of 74 (by decide +kernel) rfl, by decide +kernel, by decide +kernel, by decide +kernel, by decide⟩
theorem jh_X9_template : jMh jX9_template 1 := ⟨jWs_of 1322 (by decide +kernel) rfl, jWs_of 74 (by decide +kernel) rfl, by decide +kernel, by decide +kernel, by decide +kernel, by decide⟩
theorem jh_X9_item : jMh jX9_item 2 := ⟨jWs_of 1330 (by decide +kernel) rfl, jWs_of 74 (by decide +kernel) rfl, by decide +kernel, by decide +kernel, by decide +kernel, by decide⟩
theorem jh_X9_counts : jMh jX9_counts 2 := ⟨jWs_of 1344 (by decide +kernel) rfl, jWs_of 74 (by decide +kernel) rfl, by decide +kernel, by decide +kernel, by decide +kernel, by decide⟩
theorem jh_X9_setHome : jMh jX9_setHome 0 := ⟨jWs_of 1365 (by decide +kernel) rfl, jWs_of 74 (by decide +kernel) rfl, by decide +kernel, by decide +kernel, by decide +kernel, by decide⟩
theorem jh_X9_setKeys : jMh jX9_setKeys 1 := ⟨jWs_of 1372 (by decide +kernel) rfl, jWs_of 74 (by decide +kernel) rfl, by decide +kernel, by decide +kernel, by decide +kernel, by decide⟩
theorem jh_X9_setPolicy : jMh jX9_setPolicy 1 := ⟨jWs_of 1380 (by decide +kernel) rfl, jWs_of 74 (by decide +kernel) rfl, by decide +kernel, by decide +kernel, by decide +kernel, by decide⟩
theorem jh_X9_exclude : jMh jX9_exclude 2 := ⟨jWs_of 1388 (by decide +kernel) rfl, jWs_of 74 (by decide +kernel) rfl, by decide +kernel, by decide +kernel, by decide +kernel, by decide⟩
theorem jh_X9_setLimit : jMh jX9_setLimit 1 := ⟨jWs_of 1396 (by decide +kernel) rfl, jWs_of 74 (by decide +kernel) rfl, by decide +kernel, by decide +kernel, by decide +kernel, by decide⟩
theorem jh_X9_setting : jMh jX9_setting 1 := ⟨jWs_of 1404 (by decide +kernel) rfl, jWs_of 74 (by decide +kernel) rfl, by decide +kernel, by decide +kernel, by decide +kernel, by decide⟩
theorem jh_X9_run : jMh jX9_run 0 := ⟨jWs_of 1412 (by decide +kernel) rfl, jWs_of 74 (by decide +kernel) rfl, by decide +kernel, by decide +kernel, by decide +kernel, by decide⟩
theorem jh_X9_reason : jMh jX9_reason 1 := ⟨jWs_of 1480 (by decide +kernel) rfl, jWs_of 74 (by decide +kernel) rfl, by decide +kernel, by decide +kernel, by decide +kernel, by decide⟩
theorem jh_X9_reasons : jMh jX9_reasons 1 := ⟨jWs_of 1497 (by decide +kernel) rfl, jWs_of 74 (by decide +kernel) rfl, by decide +kernel, by decide +kernel, by decide +kernel, by decide⟩
theorem jh_X9_letter : jMh jX9_letter 2 := ⟨jWs_of 1506 (by decide +kernel) rfl, jWs_of 74 (by decide +kernel) rfl, by decide +kernel, by decide +kernel, by decide +kernel, by decide⟩
theorem jh_X9_chain : jMh jX9_chain 2 := ⟨jWs_of 1529 (by decide +kernel) rfl, jWs_of 74 (by decide +kernel) rfl, by decide +kernel, by decide +kernel, by decide +kernel, by decide⟩
theorem jh_X9_kept : jMh jX9_kept 1 := ⟨jWs_of 1538 (by decide +kernel) rfl, jWs_of 74 (by decide +kernel) rfl, by decide +kernel, by decide +kernel, by decide +kernel, by decide⟩
theorem jh_X9_preview : jMh jX9_preview 1 := ⟨jWs_of 1547 (by decide +kernel) rfl, jWs_of 74 (by decide +kernel) rfl, by decide +kernel, by decide +kernel, by decide +kernel, by decide⟩
theorem jh_X9_meanLength : jMh jX9_meanLength 0 := ⟨jWs_of 1569 (by decide +kernel) rfl, jWs_of 74 (by decide +kernel) rfl, by decide +kernel, by decide +kernel, by decide +kernel, by decide⟩
theorem jh_X9_share : jMh jX9_share 0 := ⟨jWs_of 1583 (by decide +kernel) rfl, jWs_of 74 (by decide +kernel) rfl, by decide +kernel, by decide +kernel, by decide +kernel, by decide⟩
theorem jh_X9_isOrderFree : jMh jX9_isOrderFree 0 := ⟨jWs_of 345 (by decide +kernel) rfl, jWs_of 74 (by decide +kernel) rfl, by decide +kernel, by decide +kernel, by decide +kernel, by decide⟩
theorem jh_X9_undo : jMh jX9_undo 0 := ⟨jWs_of 1590 (by decide +kernel) rfl, jWs_of 74 (by decide +kernel) rfl, by decide +kernel, by decide +kernel, by decide +kernel, by decide⟩
theorem jh_X9_snapshot : jMh jX9_snapshot 0 := ⟨jWs_of 439 (by decide +kernel) rfl, jWs_of 74 (by decide +kernel) rfl, by decide +kernel, by decide +kernel, by decide +kernel, by decide⟩
theorem jh_X9_restore : jMh jX9_restore 0 := ⟨jWs_of 1598 (by decide +kernel) rfl, jWs_of 74 (by decide +kernel) rfl, by decide +kernel, by decide +kernel, by decide +kernel, by decide⟩
theorem jh_X9_byteAt : jMh jX9_byteAt 2 := ⟨jWs_of 455 (by decide +kernel) rfl, jWs_of 74 (by decide +kernel) rfl, by decide +kernel, by decide +kernel, by decide +kernel, by decide⟩
theorem jh_X9_isGroup : jMh jX9_isGroup 1 := ⟨jWs_of 631 (by decide +kernel) rfl, jWs_of 74 (by decide +kernel) rfl, by decide +kernel, by decide +kernel, by decide +kernel, by decide⟩
theorem jh_X9_isCountInRange : jMh jX9_isCountInRange 1 := ⟨jWs_of 634 (by decide +kernel) rfl, jWs_of 74 (by decide +kernel) rfl, by decide +kernel, by decide +kernel, by decide +kernel, by decide⟩
theorem jh_X9_checkField : jMh jX9_checkField 1 := ⟨jWs_of 756 (by decide +kernel) rfl, jWs_of 74 (by decide +kernel) rfl, by decide +kernel, by decide +kernel, by decide +kernel, by decide⟩
theorem jh_X9_existing : jMh jX9_existing 1 := ⟨jWs_of 713 (by decide +kernel) rfl, jWs_of 74 (by decide +kernel) rfl, by decide +kernel, by decide +kernel, by decide +kernel, by decide⟩
theorem jh_X9_existingPiece : jMh jX9_existingPiece 1 := ⟨jWs_of 1334 (by decide +kernel) rfl, jWs_of 74 (by decide +kernel) rfl, by decide +kernel, by decide +kernel, by decide +kernel, by decide⟩
theorem jh_X9_checkRun : jMh jX9_checkRun 0 := ⟨jWs_of 1488 (by decide +kernel) rfl, jWs_of 74 (by decide +kernel) rfl, by decide +kernel, by decide +kernel, by decide +kernel, by decide⟩
theorem jh_X9_sheetOf : jMh jX9_sheetOf 1 := ⟨jWs_of 1484 (by decide +kernel) rfl, jWs_of 74 (by decide +kernel) rfl, by decide +kernel, by decide +kernel, by decide +kernel, by decide⟩
theorem jh_X9_takeBuffer : jMh jX9_takeBuffer 0 := ⟨jWs_of 789 (by decide +kernel) rfl, jWs_of 74 (by decide +kernel) rfl, by decide +kernel, by decide +kernel, by decide +kernel, by decide⟩
theorem jh_X9_takeFieldText : jMh jX9_takeFieldText 0 := ⟨jWs_of 785 (by decide +kernel) rfl, jWs_of 74 (by decide +kernel) rfl, by decide +kernel, by decide +kernel, by decide +kernel, by decide⟩
theorem jh_X9_wrongPlaceOfField : jMh jX9_wrongPlaceOfField 1 := ⟨jWs_of 959 (by decide +kernel) rfl, jWs_of 74 (by decide +kernel) rfl, by decide +kernel, by decide +kernel, by decide +kernel, by decide⟩
theorem jh_X9_remember : jMh jX9_remember 0 := ⟨jWs_of 640 (by decide +kernel) rfl, jWs_of 74 (by decide +kernel) rfl, by decide +kernel, by decide +kernel, by decide +kernel, by decide⟩
theorem jh_X9_forgetOldest : jMh jX9_forgetOldest 0 := ⟨jWs_of 644 (by decide +kernel) rfl, jWs_of 74 (by decide +kernel) rfl, by decide +kernel, by decide +kernel, by decide +kernel, by decide⟩
theorem jh_X10_init : jMh jX10_init 0 := ⟨jWs_of 1604 (by decide +kernel) rfl, jWs_of 85 (by decide +kernel) rfl, by decide +kernel, by decide +kernel, by decide +kernel, by decide⟩
theorem jh_X10_thrown : jMh jX10_thrown 0 := ⟨jWs_of 1719 (by decide +kernel) rfl, jWs_of 85 (by decide +kernel) rfl, by decide +kernel, by decide +kernel, by decide +kernel, by decide⟩
theorem jh_X10_in : jMh jX10_in 3 := ⟨jWs_of 1730 (by decide +kernel) rfl, jWs_of 85 (by decide +kernel) rfl, by decide +kernel, by decide +kernel, by decide +kernel, by decide⟩
theorem jh_X10_copies : jMh jX10_copies 2 := ⟨jWs_of 1746 (by decide +kernel) rfl, jWs_of 85 (by decide +kernel) rfl, by decide +kernel, by decide +kernel, by decide +kernel, by decide⟩
theorem jh_X10_keeps : jMh jX10_keeps 0 := ⟨jWs_of 1742 (by decide +kernel) rfl, jWs_of 85 (by decide +kernel) rfl, by decide +kernel, by decide +kernel, by decide +kernel, by decide⟩
theorem jh_X10_isRecord : jMh jX10_isRecord 1 := ⟨jWs_of 1754 (by decide +kernel) rfl, jWs_of 85 (by decide +kernel) rfl, by decide +kernel, by decide +kernel, by decide +kernel, by decide⟩
theorem jh_X10_groupOf : jMh jX10_groupOf 1 := ⟨jWs_of 1809 (by decide +kernel) rfl, jWs_of 85 (by decide +kernel) rfl, by decide +kernel, by decide +kernel, by decide +kernel, by decide⟩
theorem jh_X10_countOf : jMh jX10_countOf 1 := ⟨jWs_of 1813 (by decide +kernel) rfl, jWs_of 85 (by decide +kernel) rfl, by decide +kernel, by decide +kernel, by decide +kernel, by decide⟩
theorem jh_X10_longOf : jMh jX10_longOf 2 := ⟨jWs_of 1774 (by decide +kernel) rfl, jWs_of 85 (by decide +kernel) rfl, by decide +kernel, by decide +kernel, by decide +kernel, by decide⟩
theorem jh_X10_charOf : jMh jX10_charOf 3 := ⟨jWs_of 1782 (by decide +kernel) rfl, jWs_of 85 (by decide +kernel) rfl, by decide +kernel, by decide +kernel, by decide +kernel, by decide⟩
theorem jh_X10_isOut : jMh jX10_isOut 1 := ⟨jWs_of 1931 (by decide +kernel) rfl, jWs_of 85 (by decide +kernel) rfl, by decide +kernel, by decide +kernel, by decide +kernel, by decide⟩
theorem jh_X10_clear : jMh jX10_clear 0 := ⟨jWs_of 1723 (by decide +kernel) rfl, jWs_of 85 (by decide +kernel) rfl, by decide +kernel, by decide +kernel, by decide +kernel, by decide⟩
theorem jh_X10_append : jMh jX10_append 1 := ⟨jWs_of 1727 (by decide +kernel) rfl, jWs_of 85 (by decide +kernel) rfl, by decide +kernel, by decide +kernel, by decide +kernel, by decide⟩
theorem jh_X10_wrongField : jMh jX10_wrongField 0 := ⟨jWs_of 1793 (by decide +kernel) rfl, jWs_of 85 (by decide +kernel) rfl, by decide +kernel, by decide +kernel, by decide +kernel, by decide⟩
theorem jh_X10_errorPosition : jMh jX10_errorPosition 0 := ⟨jWs_of 1734 (by decide +kernel) rfl, jWs_of 85 (by decide +kernel) rfl, by decide +kernel, by decide +kernel, by decide +kernel, by decide⟩
theorem jh_X10_addRecord : jMh jX10_addRecord 2 := ⟨jWs_of 1738 (by decide +kernel) rfl, jWs_of 85 (by decide +kernel) rfl, by decide +kernel, by decide +kernel, by decide +kernel, by decide⟩
theorem jh_X10_moves : jMh jX10_moves 2 := ⟨jWs_of 1758 (by decide +kernel) rfl, jWs_of 85 (by decide +kernel) rfl, by decide +kernel, by decide +kernel, by decide +kernel, by decide⟩
theorem jh_X10_removeRecord : jMh jX10_removeRecord 1 := ⟨jWs_of 1750 (by decide +kernel) rfl, jWs_of 85 (by decide +kernel) rfl, by decide +kernel, by decide +kernel, by decide +kernel, by decide⟩
theorem jh_X10_moveRecord : jMh jX10_moveRecord 2 := ⟨jWs_of 1762 (by decide +kernel) rfl, jWs_of 85 (by decide +kernel) rfl, by decide +kernel, by decide +kernel, by decide +kernel, by decide⟩
theorem jh_X10_capital : jMh jX10_capital 1 := ⟨jWs_of 1785 (by decide +kernel) rfl, jWs_of 85 (by decide +kernel) rfl, by decide +kernel, by decide +kernel, by decide +kernel, by decide⟩
theorem jh_X10_compares : jMh jX10_compares 3 := ⟨jWs_of 1778 (by decide +kernel) rfl, jWs_of 85 (by decide +kernel) rfl, by decide +kernel, by decide +kernel, by decide +kernel, by decide⟩
theorem jh_X10_comesAhead : jMh jX10_comesAhead 4 := ⟨jWs_of 1770 (by decide +kernel) rfl, jWs_of 85 (by decide +kernel) rfl, by decide +kernel, by decide +kernel, by decide +kernel, by decide⟩
theorem jh_X10_sort : jMh jX10_sort 2 := ⟨jWs_of 1766 (by decide +kernel) rfl, jWs_of 85 (by decide +kernel) rfl, by decide +kernel, by decide +kernel, by decide +kernel, by decide⟩
theorem jh_X10_setField : jMh jX10_setField 2 := ⟨jWs_of 1789 (by decide +kernel) rfl, jWs_of 85 (by decide +kernel) rfl, by decide +kernel, by decide +kernel, by decide +kernel, by decide⟩
theorem jh_X10_setNumber : jMh jX10_setNumber 3 := ⟨jWs_of 1797 (by decide +kernel) rfl, jWs_of 85 (by decide +kernel) rfl, by decide +kernel, by decide +kernel, by decide +kernel, by decide⟩
theorem jh_X10_field : jMh jX10_field 3 := ⟨jWs_of 1801 (by decide +kernel) rfl, jWs_of 85 (by decide +kernel) rfl, by decide +kernel, by decide +kernel, by decide +kernel, by decide⟩
theorem jh_X10_small : jMh jX10_small 1 := ⟨jWs_of 1828 (by decide +kernel) rfl, jWs_of 85 (by decide +kernel) rfl, by decide +kernel, by decide +kernel, by decide +kernel, by decide⟩
theorem jh_X10_isHome : jMh jX10_isHome 1 := ⟨jWs_of 1825 (by decide +kernel) rfl, jWs_of 85 (by decide +kernel) rfl, by decide +kernel, by decide +kernel, by decide +kernel, by decide⟩
theorem jh_X10_isLine : jMh jX10_isLine 2 := ⟨jWs_of 1821 (by decide +kernel) rfl, jWs_of 85 (by decide +kernel) rfl, by decide +kernel, by decide +kernel, by decide +kernel, by decide⟩
theorem jh_X10_lines : jMh jX10_lines 1 := ⟨jWs_of 1817 (by decide +kernel) rfl, jWs_of 85 (by decide +kernel) rfl, by decide +kernel, by decide +kernel, by decide +kernel, by decide⟩
theorem jh_X10_record : jMh jX10_record 2 := ⟨jWs_of 1805 (by decide +kernel) rfl, jWs_of 85 (by decide +kernel) rfl, by decide +kernel, by decide +kernel, by decide +kernel, by decide⟩
theorem jh_X10_here : jMh jX10_here 0 := ⟨jWs_of 1844 (by decide +kernel) rfl, jWs_of 85 (by decide +kernel) rfl, by decide +kernel, by decide +kernel, by decide +kernel, by decide⟩
theorem jh_X10_isNext : jMh jX10_isNext 1 := ⟨jWs_of 1860 (by decide +kernel) rfl, jWs_of 85 (by decide +kernel) rfl, by decide +kernel, by decide +kernel, by decide +kernel, by decide⟩
theorem jh_X10_wants : jMh jX10_wants 1 := ⟨jWs_of 1868 (by decide +kernel) rfl, jWs_of 85 (by decide +kernel) rfl, by decide +kernel, by decide +kernel, by decide +kernel, by decide⟩
theorem jh_X10_digit : jMh jX10_digit 1 := ⟨jWs_of 1864 (by decide +kernel) rfl, jWs_of 85 (by decide +kernel) rfl, by decide +kernel, by decide +kernel, by decide +kernel, by decide⟩
theorem jh_X10_isLiteral : jMh jX10_isLiteral 1 := ⟨jWs_of 1871 (by decide +kernel) rfl, jWs_of 85 (by decide +kernel) rfl, by decide +kernel, by decide +kernel, by decide +kernel, by decide⟩
theorem jh_X10_lays : jMh jX10_lays 2 := ⟨jWs_of 1852 (by decide +kernel) rfl, jWs_of 85 (by decide +kernel) rfl, by decide +kernel, by decide +kernel, by decide +kernel, by decide⟩
theorem jh_X10_condition : jMh jX10_condition 0 := ⟨jWs_of 1856 (by decide +kernel) rfl, jWs_of 85 (by decide +kernel) rfl, by decide +kernel, by decide +kernel, by decide +kernel, by decide⟩
theorem jh_X10_bracket : jMh jX10_bracket 0 := ⟨jWs_of 1848 (by decide +kernel) rfl, jWs_of 85 (by decide +kernel) rfl, by decide +kernel, by decide +kernel, by decide +kernel, by decide⟩
theorem jh_X10_item : jMh jX10_item 0 := ⟨jWs_of 1840 (by decide +kernel) rfl, jWs_of 85 (by decide +kernel) rfl, by decide +kernel, by decide +kernel, by decide +kernel, by decide⟩
theorem jh_X10_reads : jMh jX10_reads 0 := ⟨jWs_of 1836 (by decide +kernel) rfl, jWs_of 85 (by decide +kernel) rfl, by decide +kernel, by decide +kernel, by decide +kernel, by decide⟩
theorem jh_X10_readsTemplate : jMh jX10_readsTemplate 0 := ⟨jWs_of 1879 (by decide +kernel) rfl, jWs_of 85 (by decide +kernel) rfl, by decide +kernel, by decide +kernel, by decide +kernel, by decide⟩
theorem jh_X10_setTemplate : jMh jX10_setTemplate 0 := ⟨jWs_of 1832 (by decide +kernel) rfl, jWs_of 85 (by decide +kernel) rfl, by decide +kernel, by decide +kernel, by decide +kernel, by decide⟩
theorem jh_X10_template : jMh jX10_template 1 := ⟨jWs_of 1875 (by decide +kernel) rfl, jWs_of 85 (by decide +kernel) rfl, by decide +kernel, by decide +kernel, by decide +kernel, by decide⟩
theorem jh_X10_deepOf : jMh jX10_deepOf 1 := ⟨jWs_of 1887 (by decide +kernel) rfl, jWs_of 85 (by decide +kernel) rfl, by decide +kernel, by decide +kernel, by decide +kernel, by decide⟩
theorem jh_X10_item_ : jMh jX10_item_ 2 := ⟨jWs_of 1883 (by decide +kernel) rfl, jWs_of 85 (by decide +kernel) rfl, by decide +kernel, by decide +kernel, by decide +kernel, by decide⟩
theorem jh_X10_counts : jMh jX10_counts 2 := ⟨jWs_of 1891 (by decide +kernel) rfl, jWs_of 85 (by decide +kernel) rfl, by decide +kernel, by decide +kernel, by decide +kernel, by decide⟩
theorem jh_X10_setHome : jMh jX10_setHome 0 := ⟨jWs_of 1899 (by decide +kernel) rfl, jWs_of 85 (by decide +kernel) rfl, by decide +kernel, by decide +kernel, by decide +kernel, by decide⟩
theorem jh_X10_sets : jMh jX10_sets 4 := ⟨jWs_of 1907 (by decide +kernel) rfl, jWs_of 85 (by decide +kernel) rfl, by decide +kernel, by decide +kernel, by decide +kernel, by decide⟩
theorem jh_X10_setKeys : jMh jX10_setKeys 1 := ⟨jWs_of 1903 (by decide +kernel) rfl, jWs_of 85 (by decide +kernel) rfl, by decide +kernel, by decide +kernel, by decide +kernel, by decide⟩
theorem jh_X10_setPolicy : jMh jX10_setPolicy 1 := ⟨jWs_of 1911 (by decide +kernel) rfl, jWs_of 85 (by decide +kernel) rfl, by decide +kernel, by decide +kernel, by decide +kernel, by decide⟩
theorem jh_X10_setLimit : jMh jX10_setLimit 1 := ⟨jWs_of 1915 (by decide +kernel) rfl, jWs_of 85 (by decide +kernel) rfl, by decide +kernel, by decide +kernel, by decide +kernel, by decide⟩
theorem jh_X10_exclude : jMh jX10_exclude 2 := ⟨jWs_of 1919 (by decide +kernel) rfl, jWs_of 85 (by decide +kernel) rfl, by decide +kernel, by decide +kernel, by decide +kernel, by decide⟩
theorem jh_X10_setting : jMh jX10_setting 1 := ⟨jWs_of 1923 (by decide +kernel) rfl, jWs_of 85 (by decide +kernel) rfl, by decide +kernel, by decide +kernel, by decide +kernel, by decide⟩
theorem jh_X10_holds : jMh jX10_holds 2 := ⟨jWs_of 1895 (by decide +kernel) rfl, jWs_of 85 (by decide +kernel) rfl, by decide +kernel, by decide +kernel, by decide +kernel, by decide⟩
theorem jh_X10_hasRoom : jMh jX10_hasRoom 1 := ⟨jWs_of 1959 (by decide +kernel) rfl, jWs_of 85 (by decide +kernel) rfl, by decide +kernel, by decide +kernel, by decide +kernel, by decide⟩
theorem jh_X10_writes : jMh jX10_writes 1 := ⟨jWs_of 1963 (by decide +kernel) rfl, jWs_of 85 (by decide +kernel) rfl, by decide +kernel, by decide +kernel, by decide +kernel, by decide⟩
theorem jh_X10_addressLong : jMh jX10_addressLong 1 := ⟨jWs_of 1967 (by decide +kernel) rfl, jWs_of 85 (by decide +kernel) rfl, by decide +kernel, by decide +kernel, by decide +kernel, by decide⟩
theorem jh_X10_writesAddress : jMh jX10_writesAddress 1 := ⟨jWs_of 1971 (by decide +kernel) rfl, jWs_of 85 (by decide +kernel) rfl, by decide +kernel, by decide +kernel, by decide +kernel, by decide⟩
theorem jh_X10_writesField : jMh jX10_writesField 3 := ⟨jWs_of 1975 (by decide +kernel) rfl, jWs_of 85 (by decide +kernel) rfl, by decide +kernel, by decide +kernel, by decide +kernel, by decide⟩
theorem jh_X10_gives : jMh jX10_gives 2 := ⟨jWs_of 1955 (by decide +kernel) rfl, jWs_of 85 (by decide +kernel) rfl, by decide +kernel, by decide +kernel, by decide +kernel, by decide⟩
theorem jh_X10_makes : jMh jX10_makes 1 := ⟨jWs_of 1951 (by decide +kernel) rfl, jWs_of 85 (by decide +kernel) rfl, by decide +kernel, by decide +kernel, by decide +kernel, by decide⟩
theorem jh_X10_isSame : jMh jX10_isSame 3 := ⟨jWs_of 1943 (by decide +kernel) rfl, jWs_of 85 (by decide +kernel) rfl, by decide +kernel, by decide +kernel, by decide +kernel, by decide⟩
theorem jh_X10_areLike : jMh jX10_areLike 2 := ⟨jWs_of 1939 (by decide +kernel) rfl, jWs_of 85 (by decide +kernel) rfl, by decide +kernel, by decide +kernel, by decide +kernel, by decide⟩
theorem jh_X10_keptOf : jMh jX10_keptOf 3 := ⟨jWs_of 1935 (by decide +kernel) rfl, jWs_of 85 (by decide +kernel) rfl, by decide +kernel, by decide +kernel, by decide +kernel, by decide⟩
theorem jh_X10_reasonOf : jMh jX10_reasonOf 3 := ⟨jWs_of 1983 (by decide +kernel) rfl, jWs_of 85 (by decide +kernel) rfl, by decide +kernel, by decide +kernel, by decide +kernel, by decide⟩
theorem jh_X10_kept : jMh jX10_kept 1 := ⟨jWs_of 1927 (by decide +kernel) rfl, jWs_of 85 (by decide +kernel) rfl, by decide +kernel, by decide +kernel, by decide +kernel, by decide⟩
theorem jh_X10_preview : jMh jX10_preview 1 := ⟨jWs_of 1947 (by decide +kernel) rfl, jWs_of 85 (by decide +kernel) rfl, by decide +kernel, by decide +kernel, by decide +kernel, by decide⟩
theorem jh_X10_isOrderFree : jMh jX10_isOrderFree 0 := ⟨jWs_of 1979 (by decide +kernel) rfl, jWs_of 85 (by decide +kernel) rfl, by decide +kernel, by decide +kernel, by decide +kernel, by decide⟩
theorem jh_X10_keepsChain : jMh jX10_keepsChain 1 := ⟨jWs_of 1991 (by decide +kernel) rfl, jWs_of 85 (by decide +kernel) rfl, by decide +kernel, by decide +kernel, by decide +kernel, by decide⟩
theorem jh_X10_run : jMh jX10_run 0 := ⟨jWs_of 1987 (by decide +kernel) rfl, jWs_of 85 (by decide +kernel) rfl, by decide +kernel, by decide +kernel, by decide +kernel, by decide⟩
theorem jh_X10_unasked : jMh jX10_unasked 1 := ⟨jWs_of 1999 (by decide +kernel) rfl, jWs_of 85 (by decide +kernel) rfl, by decide +kernel, by decide +kernel, by decide +kernel, by decide⟩
theorem jh_X10_reason : jMh jX10_reason 1 := ⟨jWs_of 1995 (by decide +kernel) rfl, jWs_of 85 (by decide +kernel) rfl, by decide +kernel, by decide +kernel, by decide +kernel, by decide⟩
theorem jh_X10_ranWith : jMh jX10_ranWith 1 := ⟨jWs_of 2007 (by decide +kernel) rfl, jWs_of 85 (by decide +kernel) rfl, by decide +kernel, by decide +kernel, by decide +kernel, by decide⟩
theorem jh_X10_reasons : jMh jX10_reasons 1 := ⟨jWs_of 2003 (by decide +kernel) rfl, jWs_of 85 (by decide +kernel) rfl, by decide +kernel, by decide +kernel, by decide +kernel, by decide⟩
theorem jh_X10_letter : jMh jX10_letter 2 := ⟨jWs_of 2011 (by decide +kernel) rfl, jWs_of 85 (by decide +kernel) rfl, by decide +kernel, by decide +kernel, by decide +kernel, by decide⟩
theorem jh_X10_chain : jMh jX10_chain 2 := ⟨jWs_of 2015 (by decide +kernel) rfl, jWs_of 85 (by decide +kernel) rfl, by decide +kernel, by decide +kernel, by decide +kernel, by decide⟩
theorem jh_X10_meanLength : jMh jX10_meanLength 0 := ⟨jWs_of 2019 (by decide +kernel) rfl, jWs_of 85 (by decide +kernel) rfl, by decide +kernel, by decide +kernel, by decide +kernel, by decide⟩
theorem jh_X10_share : jMh jX10_share 0 := ⟨jWs_of 2023 (by decide +kernel) rfl, jWs_of 85 (by decide +kernel) rfl, by decide +kernel, by decide +kernel, by decide +kernel, by decide⟩
theorem jh_X10_undo : jMh jX10_undo 0 := ⟨jWs_of 2027 (by decide +kernel) rfl, jWs_of 85 (by decide +kernel) rfl, by decide +kernel, by decide +kernel, by decide +kernel, by decide⟩
theorem jh_X10_snapshot : jMh jX10_snapshot 0 := ⟨jWs_of 2031 (by decide +kernel) rfl, jWs_of 85 (by decide +kernel) rfl, by decide +kernel, by decide +kernel, by decide +kernel, by decide⟩
theorem jh_X10_restore : jMh jX10_restore 0 := ⟨jWs_of 2035 (by decide +kernel) rfl, jWs_of 85 (by decide +kernel) rfl, by decide +kernel, by decide +kernel, by decide +kernel, by decide⟩
theorem jh_J5_init_d00df : jMh jJ5_init_d00df 1 := ⟨jWs_of 124 (by decide +kernel) rfl, jWs_of 75 (by decide +kernel) rfl, by decide +kernel, by decide +kernel, by decide +kernel, by decide⟩
theorem jh_J5_length_8abf5 : jMh jJ5_length_8abf5 0 := ⟨jWs_of 534 (by decide +kernel) rfl, jWs_of 75 (by decide +kernel) rfl, by decide +kernel, by decide +kernel, by decide +kernel, by decide⟩
theorem jh_J5_ensureCapacityInternal_d00df : jMh jJ5_ensureCapacityInternal_d00df 1 := ⟨jWs_of 561 (by decide +kernel) rfl, jWs_of 75 (by decide +kernel) rfl, by decide +kernel, by decide +kernel, by decide +kernel, by decide⟩
theorem jh_J5_newCapacity_0f7a4 : jMh jJ5_newCapacity_0f7a4 1 := ⟨jWs_of 565 (by decide +kernel) rfl, jWs_of 75 (by decide +kernel) rfl, by decide +kernel, by decide +kernel, by decide +kernel, by decide⟩
theorem jh_J5_inflate_da8c8 : jMh jJ5_inflate_da8c8 0 := ⟨jWs_of 600 (by decide +kernel) rfl, jWs_of 75 (by decide +kernel) rfl, by decide +kernel, by decide +kernel, by decide +kernel, by decide⟩
theorem jh_J5_setLength_d00df : jMh jJ5_setLength_d00df 1 := ⟨jWs_of 911 (by decide +kernel) rfl, jWs_of 75 (by decide +kernel) rfl, by decide +kernel, by decide +kernel, by decide +kernel, by decide⟩
theorem jh_J5_append_cf1ce : jMh jJ5_append_cf1ce 1 := ⟨jWs_of 862 (by decide +kernel) rfl, jWs_of 75 (by decide +kernel) rfl, by decide +kernel, by decide +kernel, by decide +kernel, by decide⟩
theorem jh_J5_appendNull_278bc : jMh jJ5_appendNull_278bc 0 := ⟨jWs_of 866 (by decide +kernel) rfl, jWs_of 75 (by decide +kernel) rfl, by decide +kernel, by decide +kernel, by decide +kernel, by decide⟩
theorem jh_J5_append_3fe6f : jMh jJ5_append_3fe6f 1 := ⟨jWs_of 557 (by decide +kernel) rfl, jWs_of 75 (by decide +kernel) rfl, by decide +kernel, by decide +kernel, by decide +kernel, by decide⟩
theorem jh_J5_append_c97b9 : jMh jJ5_append_c97b9 1 := ⟨jWs_of 827 (by decide +kernel) rfl, jWs_of 75 (by decide +kernel) rfl, by decide +kernel, by decide +kernel, by decide +kernel, by decide⟩
theorem jh_J5_getValue_6d5f1 : jMh jJ5_getValue_6d5f1 0 := ⟨jWs_of 806 (by decide +kernel) rfl, jWs_of 75 (by decide +kernel) rfl, by decide +kernel, by decide +kernel, by decide +kernel, by decide⟩
theorem jh_J5_isLatin1_aae02 : jMh jJ5_isLatin1_aae02 0 := ⟨jWs_of 593 (by decide +kernel) rfl, jWs_of 75 (by decide +kernel) rfl, by decide +kernel, by decide +kernel, by decide +kernel, by decide⟩
theorem jh_J5_inflateIfNeededFor_a7421 : jMh jJ5_inflateIfNeededFor_a7421 1 := ⟨jWs_of 878 (by decide +kernel) rfl, jWs_of 75 (by decide +kernel) rfl, by decide +kernel, by decide +kernel, by decide +kernel, by decide⟩
theorem jh_J5_putStringAt_47b60 : jMh jJ5_putStringAt_47b60 2 := ⟨jWs_of 874 (by decide +kernel) rfl, jWs_of 75 (by decide +kernel) rfl, by decide +kernel, by decide +kernel, by decide +kernel, by decide⟩
theorem jh_Jx00060_init_a7421 : jMh jJx00060_init_a7421 1 := ⟨jWs_of 685 (by decide +kernel) rfl, jWs_of 98 (by decide +kernel) rfl, by decide +kernel, by decide +kernel, by decide +kernel, by decide⟩
theorem jh_Jx00060_init_d00df : jMh jJx00060_init_d00df 1 := ⟨jWs_of 946 (by decide +kernel) rfl, jWs_of 98 (by decide +kernel) rfl, by decide +kernel, by decide +kernel, by decide +kernel, by decide⟩
theorem jh_J11_isValidCodePoint_9a6ad : jMh jJ11_isValidCodePoint_9a6ad 1 := ⟨jWs_of 1225 (by decide +kernel) rfl, jWs_of 105 (by decide +kernel) rfl, by decide +kernel, by decide +kernel, by decide +kernel, by decide⟩
theorem jh_J11_highSurrogate_5068e : jMh jJ11_highSurrogate_5068e 1 := ⟨jWs_of 1228 (by decide +kernel) rfl, jWs_of 105 (by decide +kernel) rfl, by decide +kernel, by decide +kernel, by decide +kernel, by decide⟩
theorem jh_J11_lowSurrogate_5068e : jMh jJ11_lowSurrogate_5068e 1 := ⟨jWs_of 1232 (by decide +kernel) rfl, jWs_of 105 (by decide +kernel) rfl, by decide +kernel, by decide +kernel, by decide +kernel, by decide⟩
theorem jh_J6_getChars_ba4f3 : jMh jJ6_getChars_ba4f3 3 := ⟨jWs_of 833 (by decide +kernel) rfl, jWs_of 100 (by decide +kernel) rfl, by decide +kernel, by decide +kernel, by decide +kernel, by decide⟩
theorem jh_J6_stringSize_0f7a4 : jMh jJ6_stringSize_0f7a4 1 := ⟨jWs_of 830 (by decide +kernel) rfl, jWs_of 100 (by decide +kernel) rfl, by decide +kernel, by decide +kernel, by decide +kernel, by decide⟩
theorem jh_J6_bitCount_0f7a4 : jMh jJ6_bitCount_0f7a4 1 := ⟨jWs_of 1039 (by decide +kernel) rfl, jWs_of 100 (by decide +kernel) rfl, by decide +kernel, by decide +kernel, by decide +kernel, by decide⟩
theorem jh_J9_abs_0f7a4 : jMh jJ9_abs_0f7a4 1 := ⟨jWs_of 746 (by decide +kernel) rfl, jWs_of 81 (by decide +kernel) rfl, by decide +kernel, by decide +kernel, by decide +kernel, by decide⟩
theorem jh_J9_max_7cf53 : jMh jJ9_max_7cf53 2 := ⟨jWs_of 170 (by decide +kernel) rfl, jWs_of 81 (by decide +kernel) rfl, by decide +kernel, by decide +kernel, by decide +kernel, by decide⟩
theorem jh_J9_min_7cf53 : jMh jJ9_min_7cf53 2 := ⟨jWs_of 368 (by decide +kernel) rfl, jWs_of 81 (by decide +kernel) rfl, by decide +kernel, by decide +kernel, by decide +kernel, by decide⟩
theorem jh_J0_init_81219 : jMh jJ0_init_81219 1 := ⟨jWs_of 797 (by decide +kernel) rfl, jWs_of 77 (by decide +kernel) rfl, by decide +kernel, by decide +kernel, by decide +kernel, by decide⟩
theorem jh_J0_length_8abf5 : jMh jJ0_length_8abf5 0 := ⟨jWs_of 381 (by decide +kernel) rfl, jWs_of 77 (by decide +kernel) rfl, by decide +kernel, by decide +kernel, by decide +kernel, by decide⟩
theorem jh_J0_isEmpty_aae02 : jMh jJ0_isEmpty_aae02 0 := ⟨jWs_of 773 (by decide +kernel) rfl, jWs_of 77 (by decide +kernel) rfl, by decide +kernel, by decide +kernel, by decide +kernel, by decide⟩
theorem jh_J0_charAt_5068e : jMh jJ0_charAt_5068e 1 := ⟨jWs_of 395 (by decide +kernel) rfl, jWs_of 77 (by decide +kernel) rfl, by decide +kernel, by decide +kernel, by decide +kernel, by decide⟩
theorem jh_J0_indexOf_0f7a4 : jMh jJ0_indexOf_0f7a4 1 := ⟨jWs_of 1191 (by decide +kernel) rfl, jWs_of 77 (by decide +kernel) rfl, by decide +kernel, by decide +kernel, by decide +kernel, by decide⟩
theorem jh_J0_indexOf_7cf53 : jMh jJ0_indexOf_7cf53 2 := ⟨jWs_of 1195 (by decide +kernel) rfl, jWs_of 77 (by decide +kernel) rfl, by decide +kernel, by decide +kernel, by decide +kernel, by decide⟩
theorem jh_J0_substring_37a41 : jMh jJ0_substring_37a41 2 := ⟨jWs_of 1237 (by decide +kernel) rfl, jWs_of 77 (by decide +kernel) rfl, by decide +kernel, by decide +kernel, by decide +kernel, by decide⟩
theorem jh_J0_getBytes_840e7 : jMh jJ0_getBytes_840e7 3 := ⟨jWs_of 883 (by decide +kernel) rfl, jWs_of 77 (by decide +kernel) rfl, by decide +kernel, by decide +kernel, by decide +kernel, by decide⟩
theorem jh_J0_init_db425 : jMh jJ0_init_db425 2 := ⟨jWs_of 800 (by decide +kernel) rfl, jWs_of 77 (by decide +kernel) rfl, by decide +kernel, by decide +kernel, by decide +kernel, by decide⟩
theorem jh_J0_init_031fb : jMh jJ0_init_031fb 2 := ⟨jWs_of 1247 (by decide +kernel) rfl, jWs_of 77 (by decide +kernel) rfl, by decide +kernel, by decide +kernel, by decide +kernel, by decide⟩
theorem jh_J0_coder_7d493 : jMh jJ0_coder_7d493 0 := ⟨jWs_of 385 (by decide +kernel) rfl, jWs_of 77 (by decide +kernel) rfl, by decide +kernel, by decide +kernel, by decide +kernel, by decide⟩
theorem jh_J0_isLatin1_aae02 : jMh jJ0_isLatin1_aae02 0 := ⟨jWs_of 399 (by decide +kernel) rfl, jWs_of 77 (by decide +kernel) rfl, by decide +kernel, by decide +kernel, by decide +kernel, by decide⟩
theorem jh_J0_checkIndex_df160 : jMh jJ0_checkIndex_df160 2 := ⟨jWs_of 405 (by decide +kernel) rfl, jWs_of 77 (by decide +kernel) rfl, by decide +kernel, by decide +kernel, by decide +kernel, by decide⟩
theorem jh_J0_checkBoundsOffCount_cabcc : jMh jJ0_checkBoundsOffCount_cabcc 3 := ⟨jWs_of 612 (by decide +kernel) rfl, jWs_of 77 (by decide +kernel) rfl, by decide +kernel, by decide +kernel, by decide +kernel, by decide⟩
theorem jh_J0_checkBoundsBeginEnd_23922 : jMh jJ0_checkBoundsBeginEnd_23922 3 := ⟨jWs_of 846 (by decide +kernel) rfl, jWs_of 77 (by decide +kernel) rfl, by decide +kernel, by decide +kernel, by decide +kernel, by decide⟩
theorem jh_J4_init_da8c8 : jMh jJ4_init_da8c8 0 := ⟨jWs_of 121 (by decide +kernel) rfl, jWs_of 76 (by decide +kernel) rfl, by decide +kernel, by decide +kernel, by decide +kernel, by decide⟩
theorem jh_J4_append_15ec4 : jMh jJ4_append_15ec4 1 := ⟨jWs_of 859 (by decide +kernel) rfl, jWs_of 76 (by decide +kernel) rfl, by decide +kernel, by decide +kernel, by decide +kernel, by decide⟩
theorem jh_J4_append_cf468 : jMh jJ4_append_cf468 1 := ⟨jWs_of 554 (by decide +kernel) rfl, jWs_of 76 (by decide +kernel) rfl, by decide +kernel, by decide +kernel, by decide +kernel, by decide⟩
theorem jh_J4_append_bf812 : jMh jJ4_append_bf812 1 := ⟨jWs_of 824 (by decide +kernel) rfl, jWs_of 76 (by decide +kernel) rfl, by decide +kernel, by decide +kernel, by decide +kernel, by decide⟩
theorem jh_J4_toString_0e30d : jMh jJ4_toString_0e30d 0 := ⟨jWs_of 793 (by decide +kernel) rfl, jWs_of 76 (by decide +kernel) rfl, by decide +kernel, by decide +kernel, by decide +kernel, by decide⟩
theorem jh_J4_setLength_d00df : jMh jJ4_setLength_d00df 1 := ⟨jWs_of 908 (by decide +kernel) rfl, jWs_of 76 (by decide +kernel) rfl, by decide +kernel, by decide +kernel, by decide +kernel, by decide⟩
theorem jh_J4_length_8abf5 : jMh jJ4_length_8abf5 0 := ⟨jWs_of 531 (by decide +kernel) rfl, jWs_of 76 (by decide +kernel) rfl, by decide +kernel, by decide +kernel, by decide +kernel, by decide⟩
theorem jh_Jx7c733_init_d00df : jMh jJx7c733_init_d00df 1 := ⟨jWs_of 916 (by decide +kernel) rfl, jWs_of 101 (by decide +kernel) rfl, by decide +kernel, by decide +kernel, by decide +kernel, by decide⟩
theorem jh_J1_charAt_3b067 : jMh jJ1_charAt_3b067 2 := ⟨jWs_of 402 (by decide +kernel) rfl, jWs_of 94 (by decide +kernel) rfl, by decide +kernel, by decide +kernel, by decide +kernel, by decide⟩
theorem jh_J1_canEncode_fc78d : jMh jJ1_canEncode_fc78d 1 := ⟨jWs_of 596 (by decide +kernel) rfl, jWs_of 94 (by decide +kernel) rfl, by decide +kernel, by decide +kernel, by decide +kernel, by decide⟩
theorem jh_J1_canEncode_9a6ad : jMh jJ1_canEncode_9a6ad 1 := ⟨jWs_of 1202 (by decide +kernel) rfl, jWs_of 94 (by decide +kernel) rfl, by decide +kernel, by decide +kernel, by decide +kernel, by decide⟩
theorem jh_J1_indexOf_4cfef : jMh jJ1_indexOf_4cfef 4 := ⟨jWs_of 1199 (by decide +kernel) rfl, jWs_of 94 (by decide +kernel) rfl, by decide +kernel, by decide +kernel, by decide +kernel, by decide⟩
theorem jh_J1_indexOfChar_4cfef : jMh jJ1_indexOfChar_4cfef 4 := ⟨jWs_of 1207 (by decide +kernel) rfl, jWs_of 94 (by decide +kernel) rfl, by decide +kernel, by decide +kernel, by decide +kernel, by decide⟩
theorem jh_J1_newString_b4f7a : jMh jJ1_newString_b4f7a 3 := ⟨jWs_of 1241 (by decide +kernel) rfl, jWs_of 94 (by decide +kernel) rfl, by decide +kernel, by decide +kernel, by decide +kernel, by decide⟩
theorem jh_J1_fillNull_b72d1 : jMh jJ1_fillNull_b72d1 3 := ⟨jWs_of 933 (by decide +kernel) rfl, jWs_of 94 (by decide +kernel) rfl, by decide +kernel, by decide +kernel, by decide +kernel, by decide⟩
theorem jh_J1_inflate_0e8fd : jMh jJ1_inflate_0e8fd 5 := ⟨jWs_of 603 (by decide +kernel) rfl, jWs_of 94 (by decide +kernel) rfl, by decide +kernel, by decide +kernel, by decide +kernel, by decide⟩
theorem jh_J2_newBytesFor_77867 : jMh jJ2_newBytesFor_77867 1 := ⟨jWs_of 130 (by decide +kernel) rfl, jWs_of 78 (by decide +kernel) rfl, by decide +kernel, by decide +kernel, by decide +kernel, by decide⟩
theorem jh_J2_newBytesLength_0f7a4 : jMh jJ2_newBytesLength_0f7a4 1 := ⟨jWs_of 133 (by decide +kernel) rfl, jWs_of 78 (by decide +kernel) rfl, by decide +kernel, by decide +kernel, by decide +kernel, by decide⟩
theorem jh_J2_putChar_b72d1 : jMh jJ2_putChar_b72d1 3 := ⟨jWs_of 618 (by decide +kernel) rfl, jWs_of 78 (by decide +kernel) rfl, by decide +kernel, by decide +kernel, by decide +kernel, by decide⟩
theorem jh_J2_getChar_3b067 : jMh jJ2_getChar_3b067 2 := ⟨jWs_of 423 (by decide +kernel) rfl, jWs_of 78 (by decide +kernel) rfl, by decide +kernel, by decide +kernel, by decide +kernel, by decide⟩
theorem jh_J2_length_9d52b : jMh jJ2_length_9d52b 1 := ⟨jWs_of 419 (by decide +kernel) rfl, jWs_of 78 (by decide +kernel) rfl, by decide +kernel, by decide +kernel, by decide +kernel, by decide⟩
theorem jh_J2_coderFromArrayLen_85cad : jMh jJ2_coderFromArrayLen_85cad 2 := ⟨jWs_of 897 (by decide +kernel) rfl, jWs_of 78 (by decide +kernel) rfl, by decide +kernel, by decide +kernel, by decide +kernel, by decide⟩
theorem jh_J2_compress_39247 : jMh jJ2_compress_39247 3 := ⟨jWs_of 890 (by decide +kernel) rfl, jWs_of 78 (by decide +kernel) rfl, by decide +kernel, by decide +kernel, by decide +kernel, by decide⟩
theorem jh_J2_compress_5af95 : jMh jJ2_compress_5af95 5 := ⟨jWs_of 893 (by decide +kernel) rfl, jWs_of 78 (by decide +kernel) rfl, by decide +kernel, by decide +kernel, by decide +kernel, by decide⟩
theorem jh_J2_indexOf_4cfef : jMh jJ2_indexOf_4cfef 4 := ⟨jWs_of 1210 (by decide +kernel) rfl, jWs_of 78 (by decide +kernel) rfl, by decide +kernel, by decide +kernel, by decide +kernel, by decide⟩
theorem jh_J2_indexOfChar_4cfef : jMh jJ2_indexOfChar_4cfef 4 := ⟨jWs_of 1216 (by decide +kernel) rfl, jWs_of 78 (by decide +kernel) rfl, by decide +kernel, by decide +kernel, by decide +kernel, by decide⟩
theorem jh_J2_indexOfCharUnsafe_4cfef : jMh jJ2_indexOfCharUnsafe_4cfef 4 := ⟨jWs_of 1219 (by decide +kernel) rfl, jWs_of 78 (by decide +kernel) rfl, by decide +kernel, by decide +kernel, by decide +kernel, by decide⟩
theorem jh_J2_indexOfSupplementary_4cfef : jMh jJ2_indexOfSupplementary_4cfef 4 := ⟨jWs_of 1222 (by decide +kernel) rfl, jWs_of 78 (by decide +kernel) rfl, by decide +kernel, by decide +kernel, by decide +kernel, by decide⟩
theorem jh_J2_newString_b4f7a : jMh jJ2_newString_b4f7a 3 := ⟨jWs_of 1250 (by decide +kernel) rfl, jWs_of 78 (by decide +kernel) rfl, by decide +kernel, by decide +kernel, by decide +kernel, by decide⟩
theorem jh_J2_fillNull_b72d1 : jMh jJ2_fillNull_b72d1 3 := ⟨jWs_of 955 (by decide +kernel) rfl, jWs_of 78 (by decide +kernel) rfl, by decide +kernel, by decide +kernel, by decide +kernel, by decide⟩
theorem jh_J2_putCharSB_b72d1 : jMh jJ2_putCharSB_b72d1 3 := ⟨jWs_of 621 (by decide +kernel) rfl, jWs_of 78 (by decide +kernel) rfl, by decide +kernel, by decide +kernel, by decide +kernel, by decide⟩
theorem jh_J2_getChars_46870 : jMh jJ2_getChars_46870 4 := ⟨jWs_of 840 (by decide +kernel) rfl, jWs_of 78 (by decide +kernel) rfl, by decide +kernel, by decide +kernel, by decide +kernel, by decide⟩
theorem jh_J2_putCharsAt_cd4e5 : jMh jJ2_putCharsAt_cd4e5 6 := ⟨jWs_of 869 (by decide +kernel) rfl, jWs_of 78 (by decide +kernel) rfl, by decide +kernel, by decide +kernel, by decide +kernel, by decide⟩
theorem jh_J2_charAt_3b067 : jMh jJ2_charAt_3b067 2 := ⟨jWs_of 413 (by decide +kernel) rfl, jWs_of 78 (by decide +kernel) rfl, by decide +kernel, by decide +kernel, by decide +kernel, by decide⟩
theorem jh_J2_inflate_0e8fd : jMh jJ2_inflate_0e8fd 5 := ⟨jWs_of 606 (by decide +kernel) rfl, jWs_of 78 (by decide +kernel) rfl, by decide +kernel, by decide +kernel, by decide +kernel, by decide⟩
theorem jh_J2_getChars_ba4f3 : jMh jJ2_getChars_ba4f3 3 := ⟨jWs_of 852 (by decide +kernel) rfl, jWs_of 78 (by decide +kernel) rfl, by decide +kernel, by decide +kernel, by decide +kernel, by decide⟩
theorem jh_J2_checkIndex_2214a : jMh jJ2_checkIndex_2214a 2 := ⟨jWs_of 416 (by decide +kernel) rfl, jWs_of 78 (by decide +kernel) rfl, by decide +kernel, by decide +kernel, by decide +kernel, by decide⟩
theorem jh_J2_checkBoundsBeginEnd_d044e : jMh jJ2_checkBoundsBeginEnd_d044e 3 := ⟨jWs_of 843 (by decide +kernel) rfl, jWs_of 78 (by decide +kernel) rfl, by decide +kernel, by decide +kernel, by decide +kernel, by decide⟩
theorem jh_J2_checkBoundsOffCount_d044e : jMh jJ2_checkBoundsOffCount_d044e 3 := ⟨jWs_of 609 (by decide +kernel) rfl, jWs_of 78 (by decide +kernel) rfl, by decide +kernel, by decide +kernel, by decide +kernel, by decide⟩
theorem jh_J7_rangeCheck_23922 : jMh jJ7_rangeCheck_23922 3 := ⟨jWs_of 939 (by decide +kernel) rfl, jWs_of 92 (by decide +kernel) rfl, by decide +kernel, by decide +kernel, by decide +kernel, by decide⟩
theorem jh_J7_fill_eb02e : jMh jJ7_fill_eb02e 4 := ⟨jWs_of 936 (by decide +kernel) rfl, jWs_of 92 (by decide +kernel) rfl, by decide +kernel, by decide +kernel, by decide +kernel, by decide⟩
theorem jh_J7_copyOf_9075b : jMh jJ7_copyOf_9075b 2 := ⟨jWs_of 577 (by decide +kernel) rfl, jWs_of 92 (by decide +kernel) rfl, by decide +kernel, by decide +kernel, by decide +kernel, by decide⟩
theorem jh_J7_checkLength_df160 : jMh jJ7_checkLength_df160 2 := ⟨jWs_of 817 (by decide +kernel) rfl, jWs_of 92 (by decide +kernel) rfl, by decide +kernel, by decide +kernel, by decide +kernel, by decide⟩
theorem jh_J7_copyOfRange_39247 : jMh jJ7_copyOfRange_39247 3 := ⟨jWs_of 811 (by decide +kernel) rfl, jWs_of 92 (by decide +kernel) rfl, by decide +kernel, by decide +kernel, by decide +kernel, by decide⟩
theorem jh_J7_copyOfRangeByte_39247 : jMh jJ7_copyOfRangeByte_39247 3 := ⟨jWs_of 814 (by decide +kernel) rfl, jWs_of 92 (by decide +kernel) rfl, by decide +kernel, by decide +kernel, by decide +kernel, by decide⟩
theorem jh_J8_newLength_cabcc : jMh jJ8_newLength_cabcc 3 := ⟨jWs_of 568 (by decide +kernel) rfl, jWs_of 91 (by decide +kernel) rfl, by decide +kernel, by decide +kernel, by decide +kernel, by decide⟩
theorem jh_J8_hugeLength_7cf53 : jMh jJ8_hugeLength_7cf53 2 := ⟨jWs_of 573 (by decide +kernel) rfl, jWs_of 91 (by decide +kernel) rfl, by decide +kernel, by decide +kernel, by decide +kernel, by decide⟩
theorem jh_J3_checkIndex_8e157 : jMh jJ3_checkIndex_8e157 3 := ⟨jWs_of 410 (by decide +kernel) rfl, jWs_of 95 (by decide +kernel) rfl, by decide +kernel, by decide +kernel, by decide +kernel, by decide⟩
theorem jh_J3_checkFromToIndex_8c36e : jMh jJ3_checkFromToIndex_8c36e 4 := ⟨jWs_of 849 (by decide +kernel) rfl, jWs_of 95 (by decide +kernel) rfl, by decide +kernel, by decide +kernel, by decide +kernel, by decide⟩
theorem jh_J3_checkFromIndexSize_8c36e : jMh jJ3_checkFromIndexSize_8c36e 4 := ⟨jWs_of 615 (by decide +kernel) rfl, jWs_of 95 (by decide +kernel) rfl, by decide +kernel, by decide +kernel, by decide +kernel, by decide⟩
theorem jh_L_append : jMh jL_append 3 := ⟨jWs_of 446 (by decide +kernel) rfl, jWs_of 73 (by decide +kernel) rfl, by decide +kernel, by decide +kernel, by decide +kernel, by decide⟩
theorem jh_L_addRecord : jMh jL_addRecord 4 := ⟨jWs_of 624 (by decide +kernel) rfl, jWs_of 73 (by decide +kernel) rfl, by decide +kernel, by decide +kernel, by decide +kernel, by decide⟩
theorem jh_L_removeRecord : jMh jL_removeRecord 3 := ⟨jWs_of 681 (by decide +kernel) rfl, jWs_of 73 (by decide +kernel) rfl, by decide +kernel, by decide +kernel, by decide +kernel, by decide⟩
theorem jh_L_moveRecord : jMh jL_moveRecord 4 := ⟨jWs_of 738 (by decide +kernel) rfl, jWs_of 73 (by decide +kernel) rfl, by decide +kernel, by decide +kernel, by decide +kernel, by decide⟩
theorem jh_L_sort : jMh jL_sort 4 := ⟨jWs_of 749 (by decide +kernel) rfl, jWs_of 73 (by decide +kernel) rfl, by decide +kernel, by decide +kernel, by decide +kernel, by decide⟩
theorem jh_L_setField : jMh jL_setField 4 := ⟨jWs_of 777 (by decide +kernel) rfl, jWs_of 73 (by decide +kernel) rfl, by decide +kernel, by decide +kernel, by decide +kernel, by decide⟩
theorem jh_L_setNumber : jMh jL_setNumber 5 := ⟨jWs_of 978 (by decide +kernel) rfl, jWs_of 73 (by decide +kernel) rfl, by decide +kernel, by decide +kernel, by decide +kernel, by decide⟩
theorem jh_L_field : jMh jL_field 5 := ⟨jWs_of 994 (by decide +kernel) rfl, jWs_of 73 (by decide +kernel) rfl, by decide +kernel, by decide +kernel, by decide +kernel, by decide⟩
theorem jh_L_record : jMh jL_record 4 := ⟨jWs_of 1022 (by decide +kernel) rfl, jWs_of 73 (by decide +kernel) rfl, by decide +kernel, by decide +kernel, by decide +kernel, by decide⟩
theorem jh_L_setTemplate : jMh jL_setTemplate 2 := ⟨jWs_of 1046 (by decide +kernel) rfl, jWs_of 73 (by decide +kernel) rfl, by decide +kernel, by decide +kernel, by decide +kernel, by decide⟩
theorem jh_L_errorPosition : jMh jL_errorPosition 2 := ⟨jWs_of 1310 (by decide +kernel) rfl, jWs_of 73 (by decide +kernel) rfl, by decide +kernel, by decide +kernel, by decide +kernel, by decide⟩
theorem jh_L_template : jMh jL_template 3 := ⟨jWs_of 1318 (by decide +kernel) rfl, jWs_of 73 (by decide +kernel) rfl, by decide +kernel, by decide +kernel, by decide +kernel, by decide⟩
theorem jh_L_item : jMh jL_item 4 := ⟨jWs_of 1326 (by decide +kernel) rfl, jWs_of 73 (by decide +kernel) rfl, by decide +kernel, by decide +kernel, by decide +kernel, by decide⟩
theorem jh_L_counts : jMh jL_counts 4 := ⟨jWs_of 1340 (by decide +kernel) rfl, jWs_of 73 (by decide +kernel) rfl, by decide +kernel, by decide +kernel, by decide +kernel, by decide⟩
theorem jh_L_setHome : jMh jL_setHome 2 := ⟨jWs_of 1361 (by decide +kernel) rfl, jWs_of 73 (by decide +kernel) rfl, by decide +kernel, by decide +kernel, by decide +kernel, by decide⟩
theorem jh_L_setKeys : jMh jL_setKeys 3 := ⟨jWs_of 1368 (by decide +kernel) rfl, jWs_of 73 (by decide +kernel) rfl, by decide +kernel, by decide +kernel, by decide +kernel, by decide⟩
theorem jh_L_setPolicy : jMh jL_setPolicy 3 := ⟨jWs_of 1376 (by decide +kernel) rfl, jWs_of 73 (by decide +kernel) rfl, by decide +kernel, by decide +kernel, by decide +kernel, by decide⟩
theorem jh_L_exclude : jMh jL_exclude 4 := ⟨jWs_of 1384 (by decide +kernel) rfl, jWs_of 73 (by decide +kernel) rfl, by decide +kernel, by decide +kernel, by decide +kernel, by decide⟩
theorem jh_L_setLimit : jMh jL_setLimit 3 := ⟨jWs_of 1392 (by decide +kernel) rfl, jWs_of 73 (by decide +kernel) rfl, by decide +kernel, by decide +kernel, by decide +kernel, by decide⟩
theorem jh_L_setting : jMh jL_setting 3 := ⟨jWs_of 1400 (by decide +kernel) rfl, jWs_of 73 (by decide +kernel) rfl, by decide +kernel, by decide +kernel, by decide +kernel, by decide⟩
theorem jh_L_run : jMh jL_run 2 := ⟨jWs_of 1408 (by decide +kernel) rfl, jWs_of 73 (by decide +kernel) rfl, by decide +kernel, by decide +kernel, by decide +kernel, by decide⟩
theorem jh_L_reason : jMh jL_reason 3 := ⟨jWs_of 1476 (by decide +kernel) rfl, jWs_of 73 (by decide +kernel) rfl, by decide +kernel, by decide +kernel, by decide +kernel, by decide⟩
theorem jh_L_reasons : jMh jL_reasons 3 := ⟨jWs_of 1493 (by decide +kernel) rfl, jWs_of 73 (by decide +kernel) rfl, by decide +kernel, by decide +kernel, by decide +kernel, by decide⟩
theorem jh_L_letter : jMh jL_letter 4 := ⟨jWs_of 1501 (by decide +kernel) rfl, jWs_of 73 (by decide +kernel) rfl, by decide +kernel, by decide +kernel, by decide +kernel, by decide⟩
theorem jh_L_chain : jMh jL_chain 4 := ⟨jWs_of 1525 (by decide +kernel) rfl, jWs_of 73 (by decide +kernel) rfl, by decide +kernel, by decide +kernel, by decide +kernel, by decide⟩
theorem jh_L_kept : jMh jL_kept 3 := ⟨jWs_of 1534 (by decide +kernel) rfl, jWs_of 73 (by decide +kernel) rfl, by decide +kernel, by decide +kernel, by decide +kernel, by decide⟩
theorem jh_L_preview : jMh jL_preview 3 := ⟨jWs_of 1543 (by decide +kernel) rfl, jWs_of 73 (by decide +kernel) rfl, by decide +kernel, by decide +kernel, by decide +kernel, by decide⟩
theorem jh_L_meanLength : jMh jL_meanLength 2 := ⟨jWs_of 1551 (by decide +kernel) rfl, jWs_of 73 (by decide +kernel) rfl, by decide +kernel, by decide +kernel, by decide +kernel, by decide⟩
theorem jh_L_share : jMh jL_share 2 := ⟨jWs_of 1579 (by decide +kernel) rfl, jWs_of 73 (by decide +kernel) rfl, by decide +kernel, by decide +kernel, by decide +kernel, by decide⟩
theorem jh_L_undo : jMh jL_undo 2 := ⟨jWs_of 1586 (by decide +kernel) rfl, jWs_of 73 (by decide +kernel) rfl, by decide +kernel, by decide +kernel, by decide +kernel, by decide⟩
theorem jh_L_restore : jMh jL_restore 2 := ⟨jWs_of 1594 (by decide +kernel) rfl, jWs_of 73 (by decide +kernel) rfl, by decide +kernel, by decide +kernel, by decide +kernel, by decide⟩
theorem kf_J0_9 : jFl RJ0 9 0 0 (.array .byte) 0 := ⟨RJ0, TJ0, 4, tyJ0, rfl, by decide, uin_J0, tyJ0_ok, nmJ0, rfl, fun h => absurd h (by decide), fun h => absurd h (by decide), jWs_of 898 (by decide +kernel) rfl⟩
theorem kf_J0_15 : jFl RJ0 15 0 1 (.byte) 0 := ⟨RJ0, TJ0, 4, tyJ0, rfl, by decide, uin_J0, tyJ0_ok, nmJ0, rfl, fun h => absurd h (by decide), fun h => absurd h (by decide), jWs_of 899 (by decide +kernel) rfl⟩
theorem kf_J0_1048 : jFl RJ0 1048 1 2 (.boolean) 0 := ⟨RJ4, TJ4, 4, tyJ4, rfl, by decide, uin_J4, tyJ4_ok, nmJ4, rfl, fun h => absurd h (by decide), fun h => absurd h (by decide), jWs_of 138 (by decide +kernel) rfl⟩
theorem ki_J0_489 : jMi RJ0 489 jJ0_init_db425 2 := ⟨jh_J0_init_db425, rfl, rfl, rfl, jWs_of 798 (by decide +kernel) rfl, jWs_of 799 (by decide +kernel) rfl⟩
theorem ks_J0_47 : jMs RJ0 47 jJ2_coderFromArrayLen_85cad 2 := ⟨jh_J2_coderFromArrayLen_85cad, jWs_of 895 (by decide +kernel) rfl, jWs_of 896 (by decide +kernel) rfl⟩
theorem ks_J0_54 : jMs RJ0 54 jJ7_copyOfRange_39247 3 := ⟨jh_J7_copyOfRange_39247, jWs_of 809 (by decide +kernel) rfl, jWs_of 810 (by decide +kernel) rfl⟩
theorem ks_J0_106 : jMs RJ0 106 jJ1_inflate_0e8fd 5 := ⟨jh_J1_inflate_0e8fd, jWs_of 885 (by decide +kernel) rfl, jWs_of 602 (by decide +kernel) rfl⟩
theorem ks_J0_495 : jMs RJ0 495 jJ1_charAt_3b067 2 := ⟨jh_J1_charAt_3b067, jWs_of 400 (by decide +kernel) rfl, jWs_of 401 (by decide +kernel) rfl⟩
theorem ks_J0_498 : jMs RJ0 498 jJ2_charAt_3b067 2 := ⟨jh_J2_charAt_3b067, jWs_of 411 (by decide +kernel) rfl, jWs_of 412 (by decide +kernel) rfl⟩
theorem ks_J0_521 : jMs RJ0 521 jJ0_checkBoundsBeginEnd_23922 3 := ⟨jh_J0_checkBoundsBeginEnd_23922, jWs_of 1238 (by decide +kernel) rfl, jWs_of 845 (by decide +kernel) rfl⟩
theorem ks_J0_637 : jMs RJ0 637 jJ1_indexOf_4cfef 4 := ⟨jh_J1_indexOf_4cfef, jWs_of 1197 (by decide +kernel) rfl, jWs_of 1198 (by decide +kernel) rfl⟩
theorem ks_J0_640 : jMs RJ0 640 jJ2_indexOf_4cfef 4 := ⟨jh_J2_indexOf_4cfef, jWs_of 1208 (by decide +kernel) rfl, jWs_of 1209 (by decide +kernel) rfl⟩
theorem ks_J0_685 : jMs RJ0 685 jJ1_newString_b4f7a 3 := ⟨jh_J1_newString_b4f7a, jWs_of 1239 (by decide +kernel) rfl, jWs_of 1240 (by decide +kernel) rfl⟩
theorem ks_J0_689 : jMs RJ0 689 jJ2_newString_b4f7a 3 := ⟨jh_J2_newString_b4f7a, jWs_of 1248 (by decide +kernel) rfl, jWs_of 1249 (by decide +kernel) rfl⟩
theorem ks_J0_1051 : jMs RJ0 1051 jJ2_compress_39247 3 := ⟨jh_J2_compress_39247, jWs_of 888 (by decide +kernel) rfl, jWs_of 889 (by decide +kernel) rfl⟩
theorem ks_J0_1059 : jMs RJ0 1059 jJ3_checkIndex_8e157 3 := ⟨jh_J3_checkIndex_8e157, jWs_of 408 (by decide +kernel) rfl, jWs_of 409 (by decide +kernel) rfl⟩
theorem ks_J0_1062 : jMs RJ0 1062 jJ3_checkFromToIndex_8c36e 4 := ⟨jh_J3_checkFromToIndex_8c36e, jWs_of 847 (by decide +kernel) rfl, jWs_of 848 (by decide +kernel) rfl⟩
theorem ks_J0_1065 : jMs RJ0 1065 jJ3_checkFromIndexSize_8c36e 4 := ⟨jh_J3_checkFromIndexSize_8c36e, jWs_of 613 (by decide +kernel) rfl, jWs_of 614 (by decide +kernel) rfl⟩
theorem kv_J0_335 : jMv RJ0 335 jJ0_coder_7d493 0 := ⟨jh_J0_coder_7d493, rfl, jWs_of 382 (by decide +kernel) rfl, jWs_of 383 (by decide +kernel) rfl, jWs_of 384 (by decide +kernel) rfl⟩
theorem kv_J0_492 : jMv RJ0 492 jJ0_isLatin1_aae02 0 := ⟨jh_J0_isLatin1_aae02, rfl, jWs_of 396 (by decide +kernel) rfl, jWs_of 397 (by decide +kernel) rfl, jWs_of 398 (by decide +kernel) rfl⟩
theorem kv_J0_505 : jMv RJ0 505 jJ0_length_8abf5 0 := ⟨jh_J0_length_8abf5, rfl, jWs_of 1196 (by decide +kernel) rfl, jWs_of 379 (by decide +kernel) rfl, jWs_of 380 (by decide +kernel) rfl⟩
theorem kv_J0_633 : jMv RJ0 633 jJ0_indexOf_7cf53 2 := ⟨jh_J0_indexOf_7cf53, rfl, jWs_of 1192 (by decide +kernel) rfl, jWs_of 1193 (by decide +kernel) rfl, jWs_of 1194 (by decide +kernel) rfl⟩
theorem kp_J0_9 : jFl RJ0 9 0 0 (.array .byte) 2 := ⟨RJ0, TJ0, 4, tyJ0, rfl, by decide, uin_J0, tyJ0_ok, nmJ0, rfl, fun h => absurd h (by decide), fun _ => ⟨rfl, rfl⟩, jWs_of 898 (by decide +kernel) rfl⟩
theorem kp_J0_15 : jFl RJ0 15 0 1 (.byte) 2 := ⟨RJ0, TJ0, 4, tyJ0, rfl, by decide, uin_J0, tyJ0_ok, nmJ0, rfl, fun h => absurd h (by decide), fun _ => ⟨rfl, rfl⟩, jWs_of 899 (by decide +kernel) rfl⟩
theorem ki_J1_112 : jMi RJ1 112 jJ0_init_031fb 2 := ⟨jh_J0_init_031fb, rfl, rfl, rfl, jWs_of 1245 (by decide +kernel) rfl, jWs_of 1246 (by decide +kernel) rfl⟩
theorem ks_J1_9 : jMs RJ1 9 jJ0_checkIndex_df160 2 := ⟨jh_J0_checkIndex_df160, jWs_of 403 (by decide +kernel) rfl, jWs_of 404 (by decide +kernel) rfl⟩
theorem ks_J1_38 : jMs RJ1 38 jJ9_min_7cf53 2 := ⟨jh_J9_min_7cf53, jWs_of 1204 (by decide +kernel) rfl, jWs_of 367 (by decide +kernel) rfl⟩
theorem ks_J1_88 : jMs RJ1 88 jJ1_canEncode_9a6ad 1 := ⟨jh_J1_canEncode_9a6ad, jWs_of 1200 (by decide +kernel) rfl, jWs_of 1201 (by decide +kernel) rfl⟩
theorem ks_J1_92 : jMs RJ1 92 jJ9_max_7cf53 2 := ⟨jh_J9_max_7cf53, jWs_of 1203 (by decide +kernel) rfl, jWs_of 169 (by decide +kernel) rfl⟩
theorem ks_J1_95 : jMs RJ1 95 jJ1_indexOfChar_4cfef 4 := ⟨jh_J1_indexOfChar_4cfef, jWs_of 1205 (by decide +kernel) rfl, jWs_of 1206 (by decide +kernel) rfl⟩
theorem ks_J1_232 : jMs RJ1 232 jJ7_copyOfRange_39247 3 := ⟨jh_J7_copyOfRange_39247, jWs_of 1244 (by decide +kernel) rfl, jWs_of 810 (by decide +kernel) rfl⟩
theorem ks_J1_236 : jMs RJ1 236 jJ7_fill_eb02e 4 := ⟨jh_J7_fill_eb02e, jWs_of 934 (by decide +kernel) rfl, jWs_of 935 (by decide +kernel) rfl⟩
theorem ks_J1_240 : jMs RJ1 240 jJ2_inflate_0e8fd 5 := ⟨jh_J2_inflate_0e8fd, jWs_of 604 (by decide +kernel) rfl, jWs_of 605 (by decide +kernel) rfl⟩
theorem kn_J1_1 : jNw RJ1 1 0 [.null, .int 0, .int 0, .int 0] := ⟨RJ0, TJ0, 4, tyJ0, rfl, uin_J0, tyJ0_ok, rfl, by decide +kernel, jWs_of 1243 (by decide +kernel) rfl, jWs_of 701 (by decide +kernel) rfl, jWs_of 77 (by decide +kernel) rfl⟩
theorem ki_J2_263 : jMi RJ2 263 jJ0_init_031fb 2 := ⟨jh_J0_init_031fb, rfl, rfl, rfl, jWs_of 1256 (by decide +kernel) rfl, jWs_of 1246 (by decide +kernel) rfl⟩
theorem ks_J2_11 : jMs RJ2 11 jJ2_newBytesLength_0f7a4 1 := ⟨jh_J2_newBytesLength_0f7a4, jWs_of 131 (by decide +kernel) rfl, jWs_of 132 (by decide +kernel) rfl⟩
theorem ks_J2_48 : jMs RJ2 48 jJ2_length_9d52b 1 := ⟨jh_J2_length_9d52b, jWs_of 417 (by decide +kernel) rfl, jWs_of 418 (by decide +kernel) rfl⟩
theorem ks_J2_67 : jMs RJ2 67 jJ2_checkIndex_2214a 2 := ⟨jh_J2_checkIndex_2214a, jWs_of 414 (by decide +kernel) rfl, jWs_of 415 (by decide +kernel) rfl⟩
theorem ks_J2_71 : jMs RJ2 71 jJ2_getChar_3b067 2 := ⟨jh_J2_getChar_3b067, jWs_of 421 (by decide +kernel) rfl, jWs_of 422 (by decide +kernel) rfl⟩
theorem ks_J2_96 : jMs RJ2 96 jJ2_checkBoundsBeginEnd_d044e 3 := ⟨jh_J2_checkBoundsBeginEnd_d044e, jWs_of 841 (by decide +kernel) rfl, jWs_of 842 (by decide +kernel) rfl⟩
theorem ks_J2_111 : jMs RJ2 111 jJ2_putChar_b72d1 3 := ⟨jh_J2_putChar_b72d1, jWs_of 616 (by decide +kernel) rfl, jWs_of 617 (by decide +kernel) rfl⟩
theorem ks_J2_123 : jMs RJ2 123 jJ2_compress_5af95 5 := ⟨jh_J2_compress_5af95, jWs_of 891 (by decide +kernel) rfl, jWs_of 892 (by decide +kernel) rfl⟩
theorem ks_J2_126 : jMs RJ2 126 jJ7_copyOfRange_39247 3 := ⟨jh_J7_copyOfRange_39247, jWs_of 894 (by decide +kernel) rfl, jWs_of 810 (by decide +kernel) rfl⟩
theorem ks_J2_157 : jMs RJ2 157 jJ11_highSurrogate_5068e 1 := ⟨jh_J11_highSurrogate_5068e, jWs_of 1226 (by decide +kernel) rfl, jWs_of 1227 (by decide +kernel) rfl⟩
theorem ks_J2_161 : jMs RJ2 161 jJ11_lowSurrogate_5068e 1 := ⟨jh_J11_lowSurrogate_5068e, jWs_of 1230 (by decide +kernel) rfl, jWs_of 1231 (by decide +kernel) rfl⟩
theorem ks_J2_164 : jMs RJ2 164 jJ11_isValidCodePoint_9a6ad 1 := ⟨jh_J11_isValidCodePoint_9a6ad, jWs_of 1223 (by decide +kernel) rfl, jWs_of 1224 (by decide +kernel) rfl⟩
theorem ks_J2_173 : jMs RJ2 173 jJ2_checkBoundsOffCount_d044e 3 := ⟨jh_J2_checkBoundsOffCount_d044e, jWs_of 607 (by decide +kernel) rfl, jWs_of 608 (by decide +kernel) rfl⟩
theorem ks_J2_183 : jMs RJ2 183 jJ9_min_7cf53 2 := ⟨jh_J9_min_7cf53, jWs_of 1212 (by decide +kernel) rfl, jWs_of 367 (by decide +kernel) rfl⟩
theorem ks_J2_224 : jMs RJ2 224 jJ9_max_7cf53 2 := ⟨jh_J9_max_7cf53, jWs_of 1211 (by decide +kernel) rfl, jWs_of 169 (by decide +kernel) rfl⟩
theorem ks_J2_228 : jMs RJ2 228 jJ2_indexOfChar_4cfef 4 := ⟨jh_J2_indexOfChar_4cfef, jWs_of 1214 (by decide +kernel) rfl, jWs_of 1215 (by decide +kernel) rfl⟩
theorem ks_J2_232 : jMs RJ2 232 jJ2_indexOfSupplementary_4cfef 4 := ⟨jh_J2_indexOfSupplementary_4cfef, jWs_of 1220 (by decide +kernel) rfl, jWs_of 1221 (by decide +kernel) rfl⟩
theorem ks_J2_241 : jMs RJ2 241 jJ0_checkBoundsBeginEnd_23922 3 := ⟨jh_J0_checkBoundsBeginEnd_23922, jWs_of 844 (by decide +kernel) rfl, jWs_of 845 (by decide +kernel) rfl⟩
theorem ks_J2_244 : jMs RJ2 244 jJ2_indexOfCharUnsafe_4cfef 4 := ⟨jh_J2_indexOfCharUnsafe_4cfef, jWs_of 1217 (by decide +kernel) rfl, jWs_of 1218 (by decide +kernel) rfl⟩
theorem ks_J2_257 : jMs RJ2 257 jJ2_compress_39247 3 := ⟨jh_J2_compress_39247, jWs_of 1253 (by decide +kernel) rfl, jWs_of 889 (by decide +kernel) rfl⟩
theorem ks_J2_259 : jMs RJ2 259 jJ2_coderFromArrayLen_85cad 2 := ⟨jh_J2_coderFromArrayLen_85cad, jWs_of 1254 (by decide +kernel) rfl, jWs_of 896 (by decide +kernel) rfl⟩
theorem ks_J2_380 : jMs RJ2 380 jJ7_fill_eb02e 4 := ⟨jh_J7_fill_eb02e, jWs_of 956 (by decide +kernel) rfl, jWs_of 935 (by decide +kernel) rfl⟩
theorem ks_J2_393 : jMs RJ2 393 jJ2_getChars_ba4f3 3 := ⟨jh_J2_getChars_ba4f3, jWs_of 850 (by decide +kernel) rfl, jWs_of 851 (by decide +kernel) rfl⟩
theorem ks_J2_414 : jMs RJ2 414 jJ0_checkIndex_df160 2 := ⟨jh_J0_checkIndex_df160, jWs_of 420 (by decide +kernel) rfl, jWs_of 404 (by decide +kernel) rfl⟩
theorem ks_J2_419 : jMs RJ2 419 jJ0_checkBoundsOffCount_cabcc 3 := ⟨jh_J0_checkBoundsOffCount_cabcc, jWs_of 610 (by decide +kernel) rfl, jWs_of 611 (by decide +kernel) rfl⟩
theorem kn_J2_3 : jNw RJ2 3 0 [.null, .int 0, .int 0, .int 0] := ⟨RJ0, TJ0, 4, tyJ0, rfl, uin_J0, tyJ0_ok, rfl, by decide +kernel, jWs_of 1255 (by decide +kernel) rfl, jWs_of 701 (by decide +kernel) rfl, jWs_of 77 (by decide +kernel) rfl⟩
theorem ki_J4_1 : jMi RJ4 1 jJ5_init_d00df 1 := ⟨jh_J5_init_d00df, rfl, rfl, rfl, jWs_of 122 (by decide +kernel) rfl, jWs_of 123 (by decide +kernel) rfl⟩
theorem ki_J4_137 : jMi RJ4 137 jJ0_init_81219 1 := ⟨jh_J0_init_81219, rfl, rfl, rfl, jWs_of 795 (by decide +kernel) rfl, jWs_of 796 (by decide +kernel) rfl⟩
theorem kn_J4_18 : jNw RJ4 18 0 [.null, .int 0, .int 0, .int 0] := ⟨RJ0, TJ0, 4, tyJ0, rfl, uin_J0, tyJ0_ok, rfl, by decide +kernel, jWs_of 794 (by decide +kernel) rfl, jWs_of 701 (by decide +kernel) rfl, jWs_of 77 (by decide +kernel) rfl⟩
theorem kf_J5_15 : jFl RJ5 15 1 0 (.array .byte) 0 := ⟨RJ4, TJ4, 4, tyJ4, rfl, by decide, uin_J4, tyJ4_ok, nmJ4, rfl, fun h => absurd h (by decide), fun h => absurd h (by decide), jWs_of 135 (by decide +kernel) rfl⟩
theorem kf_J5_22 : jFl RJ5 22 1 1 (.byte) 0 := ⟨RJ4, TJ4, 4, tyJ4, rfl, by decide, uin_J4, tyJ4_ok, nmJ4, rfl, fun h => absurd h (by decide), fun h => absurd h (by decide), jWs_of 136 (by decide +kernel) rfl⟩
theorem kf_J5_79 : jFl RJ5 79 1 3 (.int) 0 := ⟨RJ4, TJ4, 4, tyJ4, rfl, by decide, uin_J4, tyJ4_ok, nmJ4, rfl, fun h => absurd h (by decide), fun h => absurd h (by decide), jWs_of 139 (by decide +kernel) rfl⟩
theorem ki_J5_131 : jMi RJ5 131 jJx7c733_init_d00df 1 := ⟨jh_Jx7c733_init_d00df, rfl, rfl, rfl, jWs_of 914 (by decide +kernel) rfl, jWs_of 915 (by decide +kernel) rfl⟩
theorem ks_J5_26 : jMs RJ5 26 jJ2_newBytesFor_77867 1 := ⟨jh_J2_newBytesFor_77867, jWs_of 128 (by decide +kernel) rfl, jWs_of 129 (by decide +kernel) rfl⟩
theorem ks_J5_108 : jMs RJ5 108 jJ7_copyOf_9075b 2 := ⟨jh_J7_copyOf_9075b, jWs_of 575 (by decide +kernel) rfl, jWs_of 576 (by decide +kernel) rfl⟩
theorem ks_J5_114 : jMs RJ5 114 jJ8_newLength_cabcc 3 := ⟨jh_J8_newLength_cabcc, jWs_of 566 (by decide +kernel) rfl, jWs_of 567 (by decide +kernel) rfl⟩
theorem ks_J5_125 : jMs RJ5 125 jJ1_inflate_0e8fd 5 := ⟨jh_J1_inflate_0e8fd, jWs_of 601 (by decide +kernel) rfl, jWs_of 602 (by decide +kernel) rfl⟩
theorem ks_J5_133 : jMs RJ5 133 jJ1_fillNull_b72d1 3 := ⟨jh_J1_fillNull_b72d1, jWs_of 931 (by decide +kernel) rfl, jWs_of 932 (by decide +kernel) rfl⟩
theorem ks_J5_137 : jMs RJ5 137 jJ2_fillNull_b72d1 3 := ⟨jh_J2_fillNull_b72d1, jWs_of 953 (by decide +kernel) rfl, jWs_of 954 (by decide +kernel) rfl⟩
theorem ks_J5_191 : jMs RJ5 191 jJ1_canEncode_fc78d 1 := ⟨jh_J1_canEncode_fc78d, jWs_of 594 (by decide +kernel) rfl, jWs_of 595 (by decide +kernel) rfl⟩
theorem ks_J5_197 : jMs RJ5 197 jJ2_putCharSB_b72d1 3 := ⟨jh_J2_putCharSB_b72d1, jWs_of 619 (by decide +kernel) rfl, jWs_of 620 (by decide +kernel) rfl⟩
theorem ks_J5_226 : jMs RJ5 226 jJ2_putCharsAt_cd4e5 6 := ⟨jh_J2_putCharsAt_cd4e5, jWs_of 867 (by decide +kernel) rfl, jWs_of 868 (by decide +kernel) rfl⟩
theorem ks_J5_245 : jMs RJ5 245 jJ6_stringSize_0f7a4 1 := ⟨jh_J6_stringSize_0f7a4, jWs_of 828 (by decide +kernel) rfl, jWs_of 829 (by decide +kernel) rfl⟩
theorem ks_J5_248 : jMs RJ5 248 jJ6_getChars_ba4f3 3 := ⟨jh_J6_getChars_ba4f3, jWs_of 831 (by decide +kernel) rfl, jWs_of 832 (by decide +kernel) rfl⟩
theorem ks_J5_251 : jMs RJ5 251 jJ2_getChars_46870 4 := ⟨jh_J2_getChars_46870, jWs_of 838 (by decide +kernel) rfl, jWs_of 839 (by decide +kernel) rfl⟩
theorem kv_J5_32 : jMv RJ5 32 jJ0_length_8abf5 0 := ⟨jh_J0_length_8abf5, rfl, jWs_of 870 (by decide +kernel) rfl, jWs_of 379 (by decide +kernel) rfl, jWs_of 380 (by decide +kernel) rfl⟩
theorem kv_J5_40 : jMv RJ5 40 jJ0_coder_7d493 0 := ⟨jh_J0_coder_7d493, rfl, jWs_of 879 (by decide +kernel) rfl, jWs_of 383 (by decide +kernel) rfl, jWs_of 384 (by decide +kernel) rfl⟩
theorem kv_J5_399 : jMv RJ5 399 jJ0_getBytes_840e7 3 := ⟨jh_J0_getBytes_840e7, rfl, jWs_of 880 (by decide +kernel) rfl, jWs_of 881 (by decide +kernel) rfl, jWs_of 882 (by decide +kernel) rfl⟩
theorem kn_J5_129 : jNw RJ5 129 3 [.null, .null, .null, .null, .int 0, .null] := ⟨RJx7c733, TJx7c733, 6, tyJx7c733, rfl, uin_Jx7c733, tyJx7c733_ok, rfl, by decide +kernel, jWs_of 912 (by decide +kernel) rfl, jWs_of 913 (by decide +kernel) rfl, jWs_of 101 (by decide +kernel) rfl⟩
theorem kp_J5_15 : jFl RJ5 15 1 0 (.array .byte) 1 := ⟨RJ4, TJ4, 4, tyJ4, rfl, by decide, uin_J4, tyJ4_ok, nmJ4, rfl, fun _ => rfl, fun h => absurd h (by decide), jWs_of 135 (by decide +kernel) rfl⟩
theorem kp_J5_22 : jFl RJ5 22 1 1 (.byte) 1 := ⟨RJ4, TJ4, 4, tyJ4, rfl, by decide, uin_J4, tyJ4_ok, nmJ4, rfl, fun _ => rfl, fun h => absurd h (by decide), jWs_of 136 (by decide +kernel) rfl⟩
theorem kp_J5_73 : jFl RJ5 73 1 2 (.boolean) 1 := ⟨RJ4, TJ4, 4, tyJ4, rfl, by decide, uin_J4, tyJ4_ok, nmJ4, rfl, fun _ => rfl, fun h => absurd h (by decide), jWs_of 137 (by decide +kernel) rfl⟩
theorem kp_J5_79 : jFl RJ5 79 1 3 (.int) 1 := ⟨RJ4, TJ4, 4, tyJ4, rfl, by decide, uin_J4, tyJ4_ok, nmJ4, rfl, fun _ => rfl, fun h => absurd h (by decide), jWs_of 139 (by decide +kernel) rfl⟩
theorem ki_J7_47 : jMi RJ7 47 jJ4_init_da8c8 0 := ⟨jh_J4_init_da8c8, rfl, rfl, rfl, jWs_of 820 (by decide +kernel) rfl, jWs_of 120 (by decide +kernel) rfl⟩
theorem ki_J7_70 : jMi RJ7 70 jJx00060_init_d00df 1 := ⟨jh_Jx00060_init_d00df, rfl, rfl, rfl, jWs_of 944 (by decide +kernel) rfl, jWs_of 945 (by decide +kernel) rfl⟩
theorem ks_J7_13 : jMs RJ7 13 jJ7_rangeCheck_23922 3 := ⟨jh_J7_rangeCheck_23922, jWs_of 937 (by decide +kernel) rfl, jWs_of 938 (by decide +kernel) rfl⟩
theorem ks_J7_304 : jMs RJ7 304 jJ9_min_7cf53 2 := ⟨jh_J9_min_7cf53, jWs_of 585 (by decide +kernel) rfl, jWs_of 367 (by decide +kernel) rfl⟩
theorem ks_J7_339 : jMs RJ7 339 jJ7_copyOfRangeByte_39247 3 := ⟨jh_J7_copyOfRangeByte_39247, jWs_of 812 (by decide +kernel) rfl, jWs_of 813 (by decide +kernel) rfl⟩
theorem ks_J7_343 : jMs RJ7 343 jJ7_checkLength_df160 2 := ⟨jh_J7_checkLength_df160, jWs_of 815 (by decide +kernel) rfl, jWs_of 816 (by decide +kernel) rfl⟩
theorem kv_J7_50 : jMv RJ7 50 jJ4_append_15ec4 1 := ⟨jh_J4_append_15ec4, rfl, jWs_of 856 (by decide +kernel) rfl, jWs_of 857 (by decide +kernel) rfl, jWs_of 858 (by decide +kernel) rfl⟩
theorem kv_J7_54 : jMv RJ7 54 jJ4_append_bf812 1 := ⟨jh_J4_append_bf812, rfl, jWs_of 821 (by decide +kernel) rfl, jWs_of 822 (by decide +kernel) rfl, jWs_of 823 (by decide +kernel) rfl⟩
theorem kv_J7_61 : jMv RJ7 61 jJ4_toString_0e30d 0 := ⟨jh_J4_toString_0e30d, rfl, jWs_of 886 (by decide +kernel) rfl, jWs_of 791 (by decide +kernel) rfl, jWs_of 792 (by decide +kernel) rfl⟩
theorem kn_J7_45 : jNw RJ7 45 1 [.null, .int 0, .int 0, .int 0] := ⟨RJ4, TJ4, 4, tyJ4, rfl, uin_J4, tyJ4_ok, rfl, by decide +kernel, jWs_of 819 (by decide +kernel) rfl, jWs_of 118 (by decide +kernel) rfl, jWs_of 76 (by decide +kernel) rfl⟩
theorem kn_J7_68 : jNw RJ7 68 2 [.null, .null, .null, .null, .int 0, .null] := ⟨RJx00060, TJx00060, 6, tyJx00060, rfl, uin_Jx00060, tyJx00060_ok, rfl, by decide +kernel, jWs_of 943 (by decide +kernel) rfl, jWs_of 683 (by decide +kernel) rfl, jWs_of 98 (by decide +kernel) rfl⟩
theorem ks_J8_194 : jMs RJ8 194 jJ9_max_7cf53 2 := ⟨jh_J9_max_7cf53, jWs_of 569 (by decide +kernel) rfl, jWs_of 169 (by decide +kernel) rfl⟩
theorem ks_J8_201 : jMs RJ8 201 jJ8_hugeLength_7cf53 2 := ⟨jh_J8_hugeLength_7cf53, jWs_of 571 (by decide +kernel) rfl, jWs_of 572 (by decide +kernel) rfl⟩
theorem ki_Jx00060_12 : jMi RJx00060 12 jJ4_init_da8c8 0 := ⟨jh_J4_init_da8c8, rfl, rfl, rfl, jWs_of 948 (by decide +kernel) rfl, jWs_of 120 (by decide +kernel) rfl⟩
theorem kv_Jx00060_15 : jMv RJx00060 15 jJ4_append_15ec4 1 := ⟨jh_J4_append_15ec4, rfl, jWs_of 950 (by decide +kernel) rfl, jWs_of 857 (by decide +kernel) rfl, jWs_of 858 (by decide +kernel) rfl⟩
theorem kv_Jx00060_19 : jMv RJx00060 19 jJ4_append_bf812 1 := ⟨jh_J4_append_bf812, rfl, jWs_of 951 (by decide +kernel) rfl, jWs_of 822 (by decide +kernel) rfl, jWs_of 823 (by decide +kernel) rfl⟩
theorem kv_Jx00060_22 : jMv RJx00060 22 jJ4_toString_0e30d 0 := ⟨jh_J4_toString_0e30d, rfl, jWs_of 952 (by decide +kernel) rfl, jWs_of 791 (by decide +kernel) rfl, jWs_of 792 (by decide +kernel) rfl⟩
theorem kn_Jx00060_10 : jNw RJx00060 10 1 [.null, .int 0, .int 0, .int 0] := ⟨RJ4, TJ4, 4, tyJ4, rfl, uin_J4, tyJ4_ok, rfl, by decide +kernel, jWs_of 947 (by decide +kernel) rfl, jWs_of 118 (by decide +kernel) rfl, jWs_of 76 (by decide +kernel) rfl⟩
theorem ki_Jx7c733_12 : jMi RJx7c733 12 jJ4_init_da8c8 0 := ⟨jh_J4_init_da8c8, rfl, rfl, rfl, jWs_of 918 (by decide +kernel) rfl, jWs_of 120 (by decide +kernel) rfl⟩
theorem kv_Jx7c733_15 : jMv RJx7c733 15 jJ4_append_15ec4 1 := ⟨jh_J4_append_15ec4, rfl, jWs_of 920 (by decide +kernel) rfl, jWs_of 857 (by decide +kernel) rfl, jWs_of 858 (by decide +kernel) rfl⟩
theorem kv_Jx7c733_19 : jMv RJx7c733 19 jJ4_append_bf812 1 := ⟨jh_J4_append_bf812, rfl, jWs_of 921 (by decide +kernel) rfl, jWs_of 822 (by decide +kernel) rfl, jWs_of 823 (by decide +kernel) rfl⟩
theorem kv_Jx7c733_22 : jMv RJx7c733 22 jJ4_toString_0e30d 0 := ⟨jh_J4_toString_0e30d, rfl, jWs_of 922 (by decide +kernel) rfl, jWs_of 791 (by decide +kernel) rfl, jWs_of 792 (by decide +kernel) rfl⟩
theorem kn_Jx7c733_10 : jNw RJx7c733 10 1 [.null, .int 0, .int 0, .int 0] := ⟨RJ4, TJ4, 4, tyJ4, rfl, uin_J4, tyJ4_ok, rfl, by decide +kernel, jWs_of 917 (by decide +kernel) rfl, jWs_of 118 (by decide +kernel) rfl, jWs_of 76 (by decide +kernel) rfl⟩
theorem ki_L_124 : jMi RL 124 jX9_init 0 := ⟨jh_X9_init, rfl, rfl, rfl, jWs_of 111 (by decide +kernel) rfl, jWs_of 112 (by decide +kernel) rfl⟩
theorem ki_L_127 : jMi RL 127 jX10_init 0 := ⟨jh_X10_init, rfl, rfl, rfl, jWs_of 1602 (by decide +kernel) rfl, jWs_of 1603 (by decide +kernel) rfl⟩
theorem ks_L_132 : jMs RL 132 jL_append 3 := ⟨jh_L_append, jWs_of 444 (by decide +kernel) rfl, jWs_of 445 (by decide +kernel) rfl⟩
theorem ks_L_141 : jMs RL 141 jL_addRecord 4 := ⟨jh_L_addRecord, jWs_of 622 (by decide +kernel) rfl, jWs_of 623 (by decide +kernel) rfl⟩
theorem ks_L_145 : jMs RL 145 jL_removeRecord 3 := ⟨jh_L_removeRecord, jWs_of 679 (by decide +kernel) rfl, jWs_of 680 (by decide +kernel) rfl⟩
theorem ks_L_148 : jMs RL 148 jL_moveRecord 4 := ⟨jh_L_moveRecord, jWs_of 736 (by decide +kernel) rfl, jWs_of 737 (by decide +kernel) rfl⟩
theorem ks_L_151 : jMs RL 151 jL_sort 4 := ⟨jh_L_sort, jWs_of 747 (by decide +kernel) rfl, jWs_of 748 (by decide +kernel) rfl⟩
theorem ks_L_155 : jMs RL 155 jL_setField 4 := ⟨jh_L_setField, jWs_of 775 (by decide +kernel) rfl, jWs_of 776 (by decide +kernel) rfl⟩
theorem ks_L_158 : jMs RL 158 jL_setNumber 5 := ⟨jh_L_setNumber, jWs_of 976 (by decide +kernel) rfl, jWs_of 977 (by decide +kernel) rfl⟩
theorem ks_L_162 : jMs RL 162 jL_field 5 := ⟨jh_L_field, jWs_of 992 (by decide +kernel) rfl, jWs_of 993 (by decide +kernel) rfl⟩
theorem ks_L_166 : jMs RL 166 jL_record 4 := ⟨jh_L_record, jWs_of 1020 (by decide +kernel) rfl, jWs_of 1021 (by decide +kernel) rfl⟩
theorem ks_L_169 : jMs RL 169 jL_setTemplate 2 := ⟨jh_L_setTemplate, jWs_of 1044 (by decide +kernel) rfl, jWs_of 1045 (by decide +kernel) rfl⟩
theorem ks_L_173 : jMs RL 173 jL_errorPosition 2 := ⟨jh_L_errorPosition, jWs_of 1308 (by decide +kernel) rfl, jWs_of 1309 (by decide +kernel) rfl⟩
theorem ks_L_176 : jMs RL 176 jL_template 3 := ⟨jh_L_template, jWs_of 1316 (by decide +kernel) rfl, jWs_of 1317 (by decide +kernel) rfl⟩
theorem ks_L_179 : jMs RL 179 jL_item 4 := ⟨jh_L_item, jWs_of 1324 (by decide +kernel) rfl, jWs_of 1325 (by decide +kernel) rfl⟩
theorem ks_L_182 : jMs RL 182 jL_counts 4 := ⟨jh_L_counts, jWs_of 1338 (by decide +kernel) rfl, jWs_of 1339 (by decide +kernel) rfl⟩
theorem ks_L_185 : jMs RL 185 jL_setHome 2 := ⟨jh_L_setHome, jWs_of 1359 (by decide +kernel) rfl, jWs_of 1360 (by decide +kernel) rfl⟩
theorem ks_L_188 : jMs RL 188 jL_setKeys 3 := ⟨jh_L_setKeys, jWs_of 1366 (by decide +kernel) rfl, jWs_of 1367 (by decide +kernel) rfl⟩
theorem ks_L_191 : jMs RL 191 jL_setPolicy 3 := ⟨jh_L_setPolicy, jWs_of 1374 (by decide +kernel) rfl, jWs_of 1375 (by decide +kernel) rfl⟩
theorem ks_L_194 : jMs RL 194 jL_exclude 4 := ⟨jh_L_exclude, jWs_of 1382 (by decide +kernel) rfl, jWs_of 1383 (by decide +kernel) rfl⟩
theorem ks_L_197 : jMs RL 197 jL_setLimit 3 := ⟨jh_L_setLimit, jWs_of 1390 (by decide +kernel) rfl, jWs_of 1391 (by decide +kernel) rfl⟩
theorem ks_L_200 : jMs RL 200 jL_setting 3 := ⟨jh_L_setting, jWs_of 1398 (by decide +kernel) rfl, jWs_of 1399 (by decide +kernel) rfl⟩
theorem ks_L_203 : jMs RL 203 jL_run 2 := ⟨jh_L_run, jWs_of 1406 (by decide +kernel) rfl, jWs_of 1407 (by decide +kernel) rfl⟩
theorem ks_L_206 : jMs RL 206 jL_reason 3 := ⟨jh_L_reason, jWs_of 1474 (by decide +kernel) rfl, jWs_of 1475 (by decide +kernel) rfl⟩
theorem ks_L_209 : jMs RL 209 jL_reasons 3 := ⟨jh_L_reasons, jWs_of 1491 (by decide +kernel) rfl, jWs_of 1492 (by decide +kernel) rfl⟩
theorem ks_L_212 : jMs RL 212 jL_letter 4 := ⟨jh_L_letter, jWs_of 1499 (by decide +kernel) rfl, jWs_of 1500 (by decide +kernel) rfl⟩
theorem ks_L_215 : jMs RL 215 jL_chain 4 := ⟨jh_L_chain, jWs_of 1523 (by decide +kernel) rfl, jWs_of 1524 (by decide +kernel) rfl⟩
theorem ks_L_218 : jMs RL 218 jL_kept 3 := ⟨jh_L_kept, jWs_of 1532 (by decide +kernel) rfl, jWs_of 1533 (by decide +kernel) rfl⟩
theorem ks_L_221 : jMs RL 221 jL_preview 3 := ⟨jh_L_preview, jWs_of 1541 (by decide +kernel) rfl, jWs_of 1542 (by decide +kernel) rfl⟩
theorem ks_L_224 : jMs RL 224 jL_meanLength 2 := ⟨jh_L_meanLength, jWs_of 1549 (by decide +kernel) rfl, jWs_of 1550 (by decide +kernel) rfl⟩
theorem ks_L_228 : jMs RL 228 jL_share 2 := ⟨jh_L_share, jWs_of 1577 (by decide +kernel) rfl, jWs_of 1578 (by decide +kernel) rfl⟩
theorem ks_L_236 : jMs RL 236 jL_undo 2 := ⟨jh_L_undo, jWs_of 1584 (by decide +kernel) rfl, jWs_of 1585 (by decide +kernel) rfl⟩
theorem ks_L_243 : jMs RL 243 jL_restore 2 := ⟨jh_L_restore, jWs_of 1592 (by decide +kernel) rfl, jWs_of 1593 (by decide +kernel) rfl⟩
theorem kv_L_7 : jMv RL 7 jX9_append 1 := ⟨jh_X9_append, rfl, jWs_of 449 (by decide +kernel) rfl, jWs_of 450 (by decide +kernel) rfl, jWs_of 451 (by decide +kernel) rfl⟩
theorem kv_L_17 : jMv RL 17 jX9_addRecord 2 := ⟨jh_X9_addRecord, rfl, jWs_of 625 (by decide +kernel) rfl, jWs_of 626 (by decide +kernel) rfl, jWs_of 627 (by decide +kernel) rfl⟩
theorem kv_L_21 : jMv RL 21 jX9_removeRecord 1 := ⟨jh_X9_removeRecord, rfl, jWs_of 706 (by decide +kernel) rfl, jWs_of 707 (by decide +kernel) rfl, jWs_of 708 (by decide +kernel) rfl⟩
theorem kv_L_26 : jMv RL 26 jX9_moveRecord 2 := ⟨jh_X9_moveRecord, rfl, jWs_of 739 (by decide +kernel) rfl, jWs_of 740 (by decide +kernel) rfl, jWs_of 741 (by decide +kernel) rfl⟩
theorem kv_L_29 : jMv RL 29 jX9_sort 2 := ⟨jh_X9_sort, rfl, jWs_of 750 (by decide +kernel) rfl, jWs_of 751 (by decide +kernel) rfl, jWs_of 752 (by decide +kernel) rfl⟩
theorem kv_L_33 : jMv RL 33 jX9_setField 2 := ⟨jh_X9_setField, rfl, jWs_of 778 (by decide +kernel) rfl, jWs_of 779 (by decide +kernel) rfl, jWs_of 780 (by decide +kernel) rfl⟩
theorem kv_L_36 : jMv RL 36 jX9_setNumber 3 := ⟨jh_X9_setNumber, rfl, jWs_of 979 (by decide +kernel) rfl, jWs_of 980 (by decide +kernel) rfl, jWs_of 981 (by decide +kernel) rfl⟩
theorem kv_L_40 : jMv RL 40 jX9_field 3 := ⟨jh_X9_field, rfl, jWs_of 996 (by decide +kernel) rfl, jWs_of 997 (by decide +kernel) rfl, jWs_of 998 (by decide +kernel) rfl⟩
theorem kv_L_46 : jMv RL 46 jX9_record 2 := ⟨jh_X9_record, rfl, jWs_of 1023 (by decide +kernel) rfl, jWs_of 1024 (by decide +kernel) rfl, jWs_of 1025 (by decide +kernel) rfl⟩
theorem kv_L_49 : jMv RL 49 jX9_setTemplate 0 := ⟨jh_X9_setTemplate, rfl, jWs_of 1047 (by decide +kernel) rfl, jWs_of 1048 (by decide +kernel) rfl, jWs_of 1049 (by decide +kernel) rfl⟩
theorem kv_L_53 : jMv RL 53 jX9_errorPosition 0 := ⟨jh_X9_errorPosition, rfl, jWs_of 1311 (by decide +kernel) rfl, jWs_of 1312 (by decide +kernel) rfl, jWs_of 1313 (by decide +kernel) rfl⟩
theorem kv_L_56 : jMv RL 56 jX9_template 1 := ⟨jh_X9_template, rfl, jWs_of 1319 (by decide +kernel) rfl, jWs_of 1320 (by decide +kernel) rfl, jWs_of 1321 (by decide +kernel) rfl⟩
theorem kv_L_59 : jMv RL 59 jX9_item 2 := ⟨jh_X9_item, rfl, jWs_of 1327 (by decide +kernel) rfl, jWs_of 1328 (by decide +kernel) rfl, jWs_of 1329 (by decide +kernel) rfl⟩
theorem kv_L_62 : jMv RL 62 jX9_counts 2 := ⟨jh_X9_counts, rfl, jWs_of 1341 (by decide +kernel) rfl, jWs_of 1342 (by decide +kernel) rfl, jWs_of 1343 (by decide +kernel) rfl⟩
theorem kv_L_66 : jMv RL 66 jX9_setHome 0 := ⟨jh_X9_setHome, rfl, jWs_of 1362 (by decide +kernel) rfl, jWs_of 1363 (by decide +kernel) rfl, jWs_of 1364 (by decide +kernel) rfl⟩
theorem kv_L_69 : jMv RL 69 jX9_setKeys 1 := ⟨jh_X9_setKeys, rfl, jWs_of 1369 (by decide +kernel) rfl, jWs_of 1370 (by decide +kernel) rfl, jWs_of 1371 (by decide +kernel) rfl⟩
theorem kv_L_72 : jMv RL 72 jX9_setPolicy 1 := ⟨jh_X9_setPolicy, rfl, jWs_of 1377 (by decide +kernel) rfl, jWs_of 1378 (by decide +kernel) rfl, jWs_of 1379 (by decide +kernel) rfl⟩
theorem kv_L_75 : jMv RL 75 jX9_exclude 2 := ⟨jh_X9_exclude, rfl, jWs_of 1385 (by decide +kernel) rfl, jWs_of 1386 (by decide +kernel) rfl, jWs_of 1387 (by decide +kernel) rfl⟩
theorem kv_L_79 : jMv RL 79 jX9_setLimit 1 := ⟨jh_X9_setLimit, rfl, jWs_of 1393 (by decide +kernel) rfl, jWs_of 1394 (by decide +kernel) rfl, jWs_of 1395 (by decide +kernel) rfl⟩
theorem kv_L_82 : jMv RL 82 jX9_setting 1 := ⟨jh_X9_setting, rfl, jWs_of 1401 (by decide +kernel) rfl, jWs_of 1402 (by decide +kernel) rfl, jWs_of 1403 (by decide +kernel) rfl⟩
theorem kv_L_85 : jMv RL 85 jX9_run 0 := ⟨jh_X9_run, rfl, jWs_of 1409 (by decide +kernel) rfl, jWs_of 1410 (by decide +kernel) rfl, jWs_of 1411 (by decide +kernel) rfl⟩
theorem kv_L_88 : jMv RL 88 jX9_reason 1 := ⟨jh_X9_reason, rfl, jWs_of 1477 (by decide +kernel) rfl, jWs_of 1478 (by decide +kernel) rfl, jWs_of 1479 (by decide +kernel) rfl⟩
theorem kv_L_91 : jMv RL 91 jX9_reasons 1 := ⟨jh_X9_reasons, rfl, jWs_of 1494 (by decide +kernel) rfl, jWs_of 1495 (by decide +kernel) rfl, jWs_of 1496 (by decide +kernel) rfl⟩
theorem kv_L_94 : jMv RL 94 jX9_letter 2 := ⟨jh_X9_letter, rfl, jWs_of 1503 (by decide +kernel) rfl, jWs_of 1504 (by decide +kernel) rfl, jWs_of 1505 (by decide +kernel) rfl⟩
theorem kv_L_99 : jMv RL 99 jX9_chain 2 := ⟨jh_X9_chain, rfl, jWs_of 1526 (by decide +kernel) rfl, jWs_of 1527 (by decide +kernel) rfl, jWs_of 1528 (by decide +kernel) rfl⟩
theorem kv_L_102 : jMv RL 102 jX9_kept 1 := ⟨jh_X9_kept, rfl, jWs_of 1535 (by decide +kernel) rfl, jWs_of 1536 (by decide +kernel) rfl, jWs_of 1537 (by decide +kernel) rfl⟩
theorem kv_L_105 : jMv RL 105 jX9_preview 1 := ⟨jh_X9_preview, rfl, jWs_of 1544 (by decide +kernel) rfl, jWs_of 1545 (by decide +kernel) rfl, jWs_of 1546 (by decide +kernel) rfl⟩
theorem kv_L_108 : jMv RL 108 jX9_meanLength 0 := ⟨jh_X9_meanLength, rfl, jWs_of 1566 (by decide +kernel) rfl, jWs_of 1567 (by decide +kernel) rfl, jWs_of 1568 (by decide +kernel) rfl⟩
theorem kv_L_114 : jMv RL 114 jX9_share 0 := ⟨jh_X9_share, rfl, jWs_of 1580 (by decide +kernel) rfl, jWs_of 1581 (by decide +kernel) rfl, jWs_of 1582 (by decide +kernel) rfl⟩
theorem kv_L_118 : jMv RL 118 jX9_undo 0 := ⟨jh_X9_undo, rfl, jWs_of 1587 (by decide +kernel) rfl, jWs_of 1588 (by decide +kernel) rfl, jWs_of 1589 (by decide +kernel) rfl⟩
theorem kv_L_121 : jMv RL 121 jX9_restore 0 := ⟨jh_X9_restore, rfl, jWs_of 1595 (by decide +kernel) rfl, jWs_of 1596 (by decide +kernel) rfl, jWs_of 1597 (by decide +kernel) rfl⟩
theorem kv_L_128 : jMv RL 128 jX9_clear 0 := ⟨jh_X9_clear, rfl, jWs_of 337 (by decide +kernel) rfl, jWs_of 338 (by decide +kernel) rfl, jWs_of 339 (by decide +kernel) rfl⟩
theorem kv_L_131 : jMv RL 131 jX10_clear 0 := ⟨jh_X10_clear, rfl, jWs_of 1720 (by decide +kernel) rfl, jWs_of 1721 (by decide +kernel) rfl, jWs_of 1722 (by decide +kernel) rfl⟩
theorem kv_L_137 : jMv RL 137 jX10_append 1 := ⟨jh_X10_append, rfl, jWs_of 1724 (by decide +kernel) rfl, jWs_of 1725 (by decide +kernel) rfl, jWs_of 1726 (by decide +kernel) rfl⟩
theorem kv_L_138 : jMv RL 138 jX10_thrown 0 := ⟨jh_X10_thrown, rfl, jWs_of 1716 (by decide +kernel) rfl, jWs_of 1717 (by decide +kernel) rfl, jWs_of 1718 (by decide +kernel) rfl⟩
theorem kv_L_144 : jMv RL 144 jX10_addRecord 2 := ⟨jh_X10_addRecord, rfl, jWs_of 1735 (by decide +kernel) rfl, jWs_of 1736 (by decide +kernel) rfl, jWs_of 1737 (by decide +kernel) rfl⟩
theorem kv_L_147 : jMv RL 147 jX10_removeRecord 1 := ⟨jh_X10_removeRecord, rfl, jWs_of 1747 (by decide +kernel) rfl, jWs_of 1748 (by decide +kernel) rfl, jWs_of 1749 (by decide +kernel) rfl⟩
theorem kv_L_150 : jMv RL 150 jX10_moveRecord 2 := ⟨jh_X10_moveRecord, rfl, jWs_of 1759 (by decide +kernel) rfl, jWs_of 1760 (by decide +kernel) rfl, jWs_of 1761 (by decide +kernel) rfl⟩
theorem kv_L_154 : jMv RL 154 jX10_sort 2 := ⟨jh_X10_sort, rfl, jWs_of 1763 (by decide +kernel) rfl, jWs_of 1764 (by decide +kernel) rfl, jWs_of 1765 (by decide +kernel) rfl⟩
theorem kv_L_157 : jMv RL 157 jX10_setField 2 := ⟨jh_X10_setField, rfl, jWs_of 1786 (by decide +kernel) rfl, jWs_of 1787 (by decide +kernel) rfl, jWs_of 1788 (by decide +kernel) rfl⟩
theorem kv_L_161 : jMv RL 161 jX10_setNumber 3 := ⟨jh_X10_setNumber, rfl, jWs_of 1794 (by decide +kernel) rfl, jWs_of 1795 (by decide +kernel) rfl, jWs_of 1796 (by decide +kernel) rfl⟩
theorem kv_L_165 : jMv RL 165 jX10_field 3 := ⟨jh_X10_field, rfl, jWs_of 1798 (by decide +kernel) rfl, jWs_of 1799 (by decide +kernel) rfl, jWs_of 1800 (by decide +kernel) rfl⟩
theorem kv_L_168 : jMv RL 168 jX10_record 2 := ⟨jh_X10_record, rfl, jWs_of 1802 (by decide +kernel) rfl, jWs_of 1803 (by decide +kernel) rfl, jWs_of 1804 (by decide +kernel) rfl⟩
theorem kv_L_172 : jMv RL 172 jX10_setTemplate 0 := ⟨jh_X10_setTemplate, rfl, jWs_of 1829 (by decide +kernel) rfl, jWs_of 1830 (by decide +kernel) rfl, jWs_of 1831 (by decide +kernel) rfl⟩
theorem kv_L_175 : jMv RL 175 jX10_errorPosition 0 := ⟨jh_X10_errorPosition, rfl, jWs_of 1731 (by decide +kernel) rfl, jWs_of 1732 (by decide +kernel) rfl, jWs_of 1733 (by decide +kernel) rfl⟩
theorem kv_L_178 : jMv RL 178 jX10_template 1 := ⟨jh_X10_template, rfl, jWs_of 1872 (by decide +kernel) rfl, jWs_of 1873 (by decide +kernel) rfl, jWs_of 1874 (by decide +kernel) rfl⟩
theorem kv_L_181 : jMv RL 181 jX10_item_ 2 := ⟨jh_X10_item_, rfl, jWs_of 1880 (by decide +kernel) rfl, jWs_of 1881 (by decide +kernel) rfl, jWs_of 1882 (by decide +kernel) rfl⟩
theorem kv_L_184 : jMv RL 184 jX10_counts 2 := ⟨jh_X10_counts, rfl, jWs_of 1888 (by decide +kernel) rfl, jWs_of 1889 (by decide +kernel) rfl, jWs_of 1890 (by decide +kernel) rfl⟩
theorem kv_L_187 : jMv RL 187 jX10_setHome 0 := ⟨jh_X10_setHome, rfl, jWs_of 1896 (by decide +kernel) rfl, jWs_of 1897 (by decide +kernel) rfl, jWs_of 1898 (by decide +kernel) rfl⟩
theorem kv_L_190 : jMv RL 190 jX10_setKeys 1 := ⟨jh_X10_setKeys, rfl, jWs_of 1900 (by decide +kernel) rfl, jWs_of 1901 (by decide +kernel) rfl, jWs_of 1902 (by decide +kernel) rfl⟩
theorem kv_L_193 : jMv RL 193 jX10_setPolicy 1 := ⟨jh_X10_setPolicy, rfl, jWs_of 1908 (by decide +kernel) rfl, jWs_of 1909 (by decide +kernel) rfl, jWs_of 1910 (by decide +kernel) rfl⟩
theorem kv_L_196 : jMv RL 196 jX10_exclude 2 := ⟨jh_X10_exclude, rfl, jWs_of 1916 (by decide +kernel) rfl, jWs_of 1917 (by decide +kernel) rfl, jWs_of 1918 (by decide +kernel) rfl⟩
theorem kv_L_199 : jMv RL 199 jX10_setLimit 1 := ⟨jh_X10_setLimit, rfl, jWs_of 1912 (by decide +kernel) rfl, jWs_of 1913 (by decide +kernel) rfl, jWs_of 1914 (by decide +kernel) rfl⟩
theorem kv_L_202 : jMv RL 202 jX10_setting 1 := ⟨jh_X10_setting, rfl, jWs_of 1920 (by decide +kernel) rfl, jWs_of 1921 (by decide +kernel) rfl, jWs_of 1922 (by decide +kernel) rfl⟩
theorem kv_L_205 : jMv RL 205 jX10_run 0 := ⟨jh_X10_run, rfl, jWs_of 1984 (by decide +kernel) rfl, jWs_of 1985 (by decide +kernel) rfl, jWs_of 1986 (by decide +kernel) rfl⟩
theorem kv_L_208 : jMv RL 208 jX10_reason 1 := ⟨jh_X10_reason, rfl, jWs_of 1992 (by decide +kernel) rfl, jWs_of 1993 (by decide +kernel) rfl, jWs_of 1994 (by decide +kernel) rfl⟩
theorem kv_L_211 : jMv RL 211 jX10_reasons 1 := ⟨jh_X10_reasons, rfl, jWs_of 2000 (by decide +kernel) rfl, jWs_of 2001 (by decide +kernel) rfl, jWs_of 2002 (by decide +kernel) rfl⟩
theorem kv_L_214 : jMv RL 214 jX10_letter 2 := ⟨jh_X10_letter, rfl, jWs_of 2008 (by decide +kernel) rfl, jWs_of 2009 (by decide +kernel) rfl, jWs_of 2010 (by decide +kernel) rfl⟩
theorem kv_L_217 : jMv RL 217 jX10_chain 2 := ⟨jh_X10_chain, rfl, jWs_of 2012 (by decide +kernel) rfl, jWs_of 2013 (by decide +kernel) rfl, jWs_of 2014 (by decide +kernel) rfl⟩
theorem kv_L_220 : jMv RL 220 jX10_kept 1 := ⟨jh_X10_kept, rfl, jWs_of 1924 (by decide +kernel) rfl, jWs_of 1925 (by decide +kernel) rfl, jWs_of 1926 (by decide +kernel) rfl⟩
theorem kv_L_223 : jMv RL 223 jX10_preview 1 := ⟨jh_X10_preview, rfl, jWs_of 1944 (by decide +kernel) rfl, jWs_of 1945 (by decide +kernel) rfl, jWs_of 1946 (by decide +kernel) rfl⟩
theorem kv_L_227 : jMv RL 227 jX10_meanLength 0 := ⟨jh_X10_meanLength, rfl, jWs_of 2016 (by decide +kernel) rfl, jWs_of 2017 (by decide +kernel) rfl, jWs_of 2018 (by decide +kernel) rfl⟩
theorem kv_L_230 : jMv RL 230 jX10_share 0 := ⟨jh_X10_share, rfl, jWs_of 2020 (by decide +kernel) rfl, jWs_of 2021 (by decide +kernel) rfl, jWs_of 2022 (by decide +kernel) rfl⟩
theorem kv_L_231 : jMv RL 231 jX9_isOrderFree 0 := ⟨jh_X9_isOrderFree, rfl, jWs_of 342 (by decide +kernel) rfl, jWs_of 343 (by decide +kernel) rfl, jWs_of 344 (by decide +kernel) rfl⟩
theorem kv_L_235 : jMv RL 235 jX10_isOrderFree 0 := ⟨jh_X10_isOrderFree, rfl, jWs_of 1976 (by decide +kernel) rfl, jWs_of 1977 (by decide +kernel) rfl, jWs_of 1978 (by decide +kernel) rfl⟩
theorem kv_L_238 : jMv RL 238 jX10_undo 0 := ⟨jh_X10_undo, rfl, jWs_of 2024 (by decide +kernel) rfl, jWs_of 2025 (by decide +kernel) rfl, jWs_of 2026 (by decide +kernel) rfl⟩
theorem kv_L_239 : jMv RL 239 jX9_snapshot 0 := ⟨jh_X9_snapshot, rfl, jWs_of 436 (by decide +kernel) rfl, jWs_of 437 (by decide +kernel) rfl, jWs_of 438 (by decide +kernel) rfl⟩
theorem kv_L_242 : jMv RL 242 jX10_snapshot 0 := ⟨jh_X10_snapshot, rfl, jWs_of 2028 (by decide +kernel) rfl, jWs_of 2029 (by decide +kernel) rfl, jWs_of 2030 (by decide +kernel) rfl⟩
theorem kv_L_245 : jMv RL 245 jX10_restore 0 := ⟨jh_X10_restore, rfl, jWs_of 2032 (by decide +kernel) rfl, jWs_of 2033 (by decide +kernel) rfl, jWs_of 2034 (by decide +kernel) rfl⟩
theorem kn_L_8 : jNw RL 8 13 [.null, .null, .null, .null, .null, .null, .null, .int 0, .int 0, .int 0] := ⟨RX9, TX9, 10, tyX9, rfl, uin_X9, tyX9_ok, rfl, by decide +kernel, jWs_of 109 (by decide +kernel) rfl, jWs_of 110 (by decide +kernel) rfl, jWs_of 74 (by decide +kernel) rfl⟩
theorem kn_L_125 : jNw RL 125 14 [.int 0, .null, .int 0, .int 0, .null, .int 0, .int 0, .null, .null, .null, .null, .int 0, .int 0, .int 0, .int 0, .int 0, .int 0, .null, .null, .null, .null, .null, .int 0, .null, .null, .null, .int 0, .null, .int 0, .int 0, .int 0, .null, .null, .null, .null, .null] := ⟨RX10, TX10, 36, tyX10, rfl, uin_X10, tyX10_ok, rfl, by decide +kernel, jWs_of 1600 (by decide +kernel) rfl, jWs_of 1601 (by decide +kernel) rfl, jWs_of 85 (by decide +kernel) rfl⟩
theorem kf_X0_7 : jFl RX0 7 4 0 (.boolean) 0 := ⟨RX0, TX0, 4, tyX0, rfl, by decide, uin_X0, tyX0_ok, nmX0, rfl, fun h => absurd h (by decide), fun h => absurd h (by decide), jWs_of 1272 (by decide +kernel) rfl⟩
theorem kf_X0_13 : jFl RX0 13 4 1 (.int) 0 := ⟨RX0, TX0, 4, tyX0, rfl, by decide, uin_X0, tyX0_ok, nmX0, rfl, fun h => absurd h (by decide), fun h => absurd h (by decide), jWs_of 1273 (by decide +kernel) rfl⟩
theorem kf_X0_17 : jFl RX0 17 4 2 (.int) 0 := ⟨RX0, TX0, 4, tyX0, rfl, by decide, uin_X0, tyX0_ok, nmX0, rfl, fun h => absurd h (by decide), fun h => absurd h (by decide), jWs_of 1274 (by decide +kernel) rfl⟩
theorem kf_X0_40 : jFl RX0 40 5 0 (.int) 0 := ⟨RX1, TX1, 3, tyX1, rfl, by decide, uin_X1, tyX1_ok, nmX1, rfl, fun h => absurd h (by decide), fun h => absurd h (by decide), jWs_of 657 (by decide +kernel) rfl⟩
theorem kf_X0_43 : jFl RX0 43 5 1 (.int) 0 := ⟨RX1, TX1, 3, tyX1, rfl, by decide, uin_X1, tyX1_ok, nmX1, rfl, fun h => absurd h (by decide), fun h => absurd h (by decide), jWs_of 661 (by decide +kernel) rfl⟩
theorem kv_X0_24 : jMv RX0 24 jX0_holdsFor 1 := ⟨jh_X0_holdsFor, rfl, jWs_of 1353 (by decide +kernel) rfl, jWs_of 1355 (by decide +kernel) rfl, jWs_of 21 (by decide +kernel) rfl⟩
theorem kv_X0_28 : jMv RX0 28 jX1_textAt 1 := ⟨jh_X1_textAt, rfl, jWs_of 1357 (by decide +kernel) rfl, jWs_of 363 (by decide +kernel) rfl, jWs_of 364 (by decide +kernel) rfl⟩
theorem kv_X0_34 : jMv RX0 34 jX8_isEmpty 0 := ⟨jh_X8_isEmpty, rfl, jWs_of 1358 (by decide +kernel) rfl, jWs_of 767 (by decide +kernel) rfl, jWs_of 768 (by decide +kernel) rfl⟩
theorem kp_X0_7 : jFl RX0 7 4 0 (.boolean) 2 := ⟨RX0, TX0, 4, tyX0, rfl, by decide, uin_X0, tyX0_ok, nmX0, rfl, fun h => absurd h (by decide), fun _ => ⟨rfl, rfl⟩, jWs_of 1272 (by decide +kernel) rfl⟩
theorem kp_X0_13 : jFl RX0 13 4 1 (.int) 2 := ⟨RX0, TX0, 4, tyX0, rfl, by decide, uin_X0, tyX0_ok, nmX0, rfl, fun h => absurd h (by decide), fun _ => ⟨rfl, rfl⟩, jWs_of 1273 (by decide +kernel) rfl⟩
theorem kp_X0_17 : jFl RX0 17 4 2 (.int) 2 := ⟨RX0, TX0, 4, tyX0, rfl, by decide, uin_X0, tyX0_ok, nmX0, rfl, fun h => absurd h (by decide), fun _ => ⟨rfl, rfl⟩, jWs_of 1274 (by decide +kernel) rfl⟩
theorem kp_X0_20 : jFl RX0 20 4 3 (.object "MailMerge$Condition") 2 := ⟨RX0, TX0, 4, tyX0, rfl, by decide, uin_X0, tyX0_ok, nmX0, rfl, fun h => absurd h (by decide), fun _ => ⟨rfl, rfl⟩, jWs_of 1275 (by decide +kernel) rfl⟩
theorem ka_X1_3 : Cond.classLink RX1 3 RX8 ∈ jWs := jWs_of 650 (by decide +kernel) rfl
theorem kf_X1_16 : jFl RX1 16 5 2 (.array (.object "MailMerge$Text")) 0 := ⟨RX1, TX1, 3, tyX1, rfl, by decide, uin_X1, tyX1_ok, nmX1, rfl, fun h => absurd h (by decide), fun h => absurd h (by decide), jWs_of 665 (by decide +kernel) rfl⟩
theorem kf_X1_25 : jFl RX1 25 5 0 (.int) 0 := ⟨RX1, TX1, 3, tyX1, rfl, by decide, uin_X1, tyX1_ok, nmX1, rfl, fun h => absurd h (by decide), fun h => absurd h (by decide), jWs_of 656 (by decide +kernel) rfl⟩
theorem kf_X1_29 : jFl RX1 29 5 1 (.int) 0 := ⟨RX1, TX1, 3, tyX1, rfl, by decide, uin_X1, tyX1_ok, nmX1, rfl, fun h => absurd h (by decide), fun h => absurd h (by decide), jWs_of 660 (by decide +kernel) rfl⟩
theorem ki_X1_5 : jMi RX1 5 jX1_init_ 3 := ⟨jh_X1_init_, rfl, rfl, rfl, jWs_of 652 (by decide +kernel) rfl, jWs_of 653 (by decide +kernel) rfl⟩
theorem ki_X1_13 : jMi RX1 13 jX8_init 1 := ⟨jh_X8_init, rfl, rfl, rfl, jWs_of 674 (by decide +kernel) rfl, jWs_of 206 (by decide +kernel) rfl⟩
theorem ks_X1_32 : jMs RX1 32 jJ9_min_7cf53 2 := ⟨jh_J9_min_7cf53, jWs_of 366 (by decide +kernel) rfl, jWs_of 367 (by decide +kernel) rfl⟩
theorem ks_X1_38 : jMs RX1 38 jJ9_max_7cf53 2 := ⟨jh_J9_max_7cf53, jWs_of 369 (by decide +kernel) rfl, jWs_of 169 (by decide +kernel) rfl⟩
theorem kv_X1_41 : jMv RX1 41 jX8_isEmpty 0 := ⟨jh_X8_isEmpty, rfl, jWs_of 1031 (by decide +kernel) rfl, jWs_of 767 (by decide +kernel) rfl, jWs_of 768 (by decide +kernel) rfl⟩
theorem kn_X1_3 : jNw RX1 3 12 [.null] := ⟨RX8, TX8, 1, tyX8, rfl, uin_X8, tyX8_ok, rfl, by decide +kernel, jWs_of 650 (by decide +kernel) rfl, jWs_of 203 (by decide +kernel) rfl, jWs_of 82 (by decide +kernel) rfl⟩
theorem kn_X1_6 : jNw RX1 6 5 [.int 0, .int 0, .null] := ⟨RX1, TX1, 3, tyX1, rfl, uin_X1, tyX1_ok, rfl, by decide +kernel, jWs_of 969 (by decide +kernel) rfl, jWs_of 646 (by decide +kernel) rfl, jWs_of 96 (by decide +kernel) rfl⟩
theorem kp_X1_16 : jFl RX1 16 5 2 (.array (.object "MailMerge$Text")) 2 := ⟨RX1, TX1, 3, tyX1, rfl, by decide, uin_X1, tyX1_ok, nmX1, rfl, fun h => absurd h (by decide), fun _ => ⟨rfl, rfl⟩, jWs_of 665 (by decide +kernel) rfl⟩
theorem kp_X1_25 : jFl RX1 25 5 0 (.int) 2 := ⟨RX1, TX1, 3, tyX1, rfl, by decide, uin_X1, tyX1_ok, nmX1, rfl, fun h => absurd h (by decide), fun _ => ⟨rfl, rfl⟩, jWs_of 656 (by decide +kernel) rfl⟩
theorem kp_X1_29 : jFl RX1 29 5 1 (.int) 2 := ⟨RX1, TX1, 3, tyX1, rfl, by decide, uin_X1, tyX1_ok, nmX1, rfl, fun h => absurd h (by decide), fun _ => ⟨rfl, rfl⟩, jWs_of 660 (by decide +kernel) rfl⟩
theorem kf_X10_9 : jFl RX10 9 14 1 (.array .int) 0 := ⟨RX10, TX10, 36, tyX10, rfl, by decide, uin_X10, tyX10_ok, nmX10, rfl, fun h => absurd h (by decide), fun h => absurd h (by decide), jWs_of 1607 (by decide +kernel) rfl⟩
theorem kf_X10_13 : jFl RX10 13 14 4 (.array .int) 0 := ⟨RX10, TX10, 36, tyX10, rfl, by decide, uin_X10, tyX10_ok, nmX10, rfl, fun h => absurd h (by decide), fun h => absurd h (by decide), jWs_of 1610 (by decide +kernel) rfl⟩
theorem kf_X10_16 : jFl RX10 16 14 6 (.int) 0 := ⟨RX10, TX10, 36, tyX10, rfl, by decide, uin_X10, tyX10_ok, nmX10, rfl, fun h => absurd h (by decide), fun h => absurd h (by decide), jWs_of 1612 (by decide +kernel) rfl⟩
theorem kf_X10_20 : jFl RX10 20 14 7 (.array .int) 0 := ⟨RX10, TX10, 36, tyX10, rfl, by decide, uin_X10, tyX10_ok, nmX10, rfl, fun h => absurd h (by decide), fun h => absurd h (by decide), jWs_of 1613 (by decide +kernel) rfl⟩
theorem kf_X10_23 : jFl RX10 23 14 8 (.array .int) 0 := ⟨RX10, TX10, 36, tyX10, rfl, by decide, uin_X10, tyX10_ok, nmX10, rfl, fun h => absurd h (by decide), fun h => absurd h (by decide), jWs_of 1614 (by decide +kernel) rfl⟩
theorem kf_X10_26 : jFl RX10 26 14 9 (.array .int) 0 := ⟨RX10, TX10, 36, tyX10, rfl, by decide, uin_X10, tyX10_ok, nmX10, rfl, fun h => absurd h (by decide), fun h => absurd h (by decide), jWs_of 1615 (by decide +kernel) rfl⟩
theorem kf_X10_29 : jFl RX10 29 14 10 (.array .int) 0 := ⟨RX10, TX10, 36, tyX10, rfl, by decide, uin_X10, tyX10_ok, nmX10, rfl, fun h => absurd h (by decide), fun h => absurd h (by decide), jWs_of 1616 (by decide +kernel) rfl⟩
theorem kf_X10_32 : jFl RX10 32 14 17 (.array .int) 0 := ⟨RX10, TX10, 36, tyX10, rfl, by decide, uin_X10, tyX10_ok, nmX10, rfl, fun h => absurd h (by decide), fun h => absurd h (by decide), jWs_of 1623 (by decide +kernel) rfl⟩
theorem kf_X10_35 : jFl RX10 35 14 18 (.array .int) 0 := ⟨RX10, TX10, 36, tyX10, rfl, by decide, uin_X10, tyX10_ok, nmX10, rfl, fun h => absurd h (by decide), fun h => absurd h (by decide), jWs_of 1624 (by decide +kernel) rfl⟩
theorem kf_X10_38 : jFl RX10 38 14 19 (.array .int) 0 := ⟨RX10, TX10, 36, tyX10, rfl, by decide, uin_X10, tyX10_ok, nmX10, rfl, fun h => absurd h (by decide), fun h => absurd h (by decide), jWs_of 1625 (by decide +kernel) rfl⟩
theorem kf_X10_41 : jFl RX10 41 14 20 (.array .int) 0 := ⟨RX10, TX10, 36, tyX10, rfl, by decide, uin_X10, tyX10_ok, nmX10, rfl, fun h => absurd h (by decide), fun h => absurd h (by decide), jWs_of 1626 (by decide +kernel) rfl⟩
theorem kf_X10_44 : jFl RX10 44 14 21 (.array .int) 0 := ⟨RX10, TX10, 36, tyX10, rfl, by decide, uin_X10, tyX10_ok, nmX10, rfl, fun h => absurd h (by decide), fun h => absurd h (by decide), jWs_of 1627 (by decide +kernel) rfl⟩
theorem kf_X10_47 : jFl RX10 47 14 23 (.array .int) 0 := ⟨RX10, TX10, 36, tyX10, rfl, by decide, uin_X10, tyX10_ok, nmX10, rfl, fun h => absurd h (by decide), fun h => absurd h (by decide), jWs_of 1629 (by decide +kernel) rfl⟩
theorem kf_X10_50 : jFl RX10 50 14 24 (.array .int) 0 := ⟨RX10, TX10, 36, tyX10, rfl, by decide, uin_X10, tyX10_ok, nmX10, rfl, fun h => absurd h (by decide), fun h => absurd h (by decide), jWs_of 1630 (by decide +kernel) rfl⟩
theorem kf_X10_53 : jFl RX10 53 14 25 (.array .boolean) 0 := ⟨RX10, TX10, 36, tyX10, rfl, by decide, uin_X10, tyX10_ok, nmX10, rfl, fun h => absurd h (by decide), fun h => absurd h (by decide), jWs_of 1631 (by decide +kernel) rfl⟩
theorem kf_X10_57 : jFl RX10 57 14 27 (.array .int) 0 := ⟨RX10, TX10, 36, tyX10, rfl, by decide, uin_X10, tyX10_ok, nmX10, rfl, fun h => absurd h (by decide), fun h => absurd h (by decide), jWs_of 1633 (by decide +kernel) rfl⟩
theorem kf_X10_60 : jFl RX10 60 14 30 (.int) 0 := ⟨RX10, TX10, 36, tyX10, rfl, by decide, uin_X10, tyX10_ok, nmX10, rfl, fun h => absurd h (by decide), fun h => absurd h (by decide), jWs_of 1636 (by decide +kernel) rfl⟩
theorem kf_X10_63 : jFl RX10 63 14 31 (.array .int) 0 := ⟨RX10, TX10, 36, tyX10, rfl, by decide, uin_X10, tyX10_ok, nmX10, rfl, fun h => absurd h (by decide), fun h => absurd h (by decide), jWs_of 1637 (by decide +kernel) rfl⟩
theorem kf_X10_66 : jFl RX10 66 14 32 (.array .int) 0 := ⟨RX10, TX10, 36, tyX10, rfl, by decide, uin_X10, tyX10_ok, nmX10, rfl, fun h => absurd h (by decide), fun h => absurd h (by decide), jWs_of 1638 (by decide +kernel) rfl⟩
theorem kf_X10_69 : jFl RX10 69 14 33 (.array .int) 0 := ⟨RX10, TX10, 36, tyX10, rfl, by decide, uin_X10, tyX10_ok, nmX10, rfl, fun h => absurd h (by decide), fun h => absurd h (by decide), jWs_of 1639 (by decide +kernel) rfl⟩
theorem kf_X10_72 : jFl RX10 72 14 34 (.array .int) 0 := ⟨RX10, TX10, 36, tyX10, rfl, by decide, uin_X10, tyX10_ok, nmX10, rfl, fun h => absurd h (by decide), fun h => absurd h (by decide), jWs_of 1640 (by decide +kernel) rfl⟩
theorem kf_X10_75 : jFl RX10 75 14 35 (.array .int) 0 := ⟨RX10, TX10, 36, tyX10, rfl, by decide, uin_X10, tyX10_ok, nmX10, rfl, fun h => absurd h (by decide), fun h => absurd h (by decide), jWs_of 1641 (by decide +kernel) rfl⟩
theorem kf_X10_78 : jFl RX10 78 14 0 (.int) 0 := ⟨RX10, TX10, 36, tyX10, rfl, by decide, uin_X10, tyX10_ok, nmX10, rfl, fun h => absurd h (by decide), fun h => absurd h (by decide), jWs_of 1606 (by decide +kernel) rfl⟩
theorem kf_X10_81 : jFl RX10 81 14 2 (.int) 0 := ⟨RX10, TX10, 36, tyX10, rfl, by decide, uin_X10, tyX10_ok, nmX10, rfl, fun h => absurd h (by decide), fun h => absurd h (by decide), jWs_of 1608 (by decide +kernel) rfl⟩
theorem kf_X10_96 : jFl RX10 96 14 5 (.int) 0 := ⟨RX10, TX10, 36, tyX10, rfl, by decide, uin_X10, tyX10_ok, nmX10, rfl, fun h => absurd h (by decide), fun h => absurd h (by decide), jWs_of 1611 (by decide +kernel) rfl⟩
theorem kf_X10_147 : jFl RX10 147 14 12 (.int) 0 := ⟨RX10, TX10, 36, tyX10, rfl, by decide, uin_X10, tyX10_ok, nmX10, rfl, fun h => absurd h (by decide), fun h => absurd h (by decide), jWs_of 1618 (by decide +kernel) rfl⟩
theorem kf_X10_150 : jFl RX10 150 14 11 (.int) 0 := ⟨RX10, TX10, 36, tyX10, rfl, by decide, uin_X10, tyX10_ok, nmX10, rfl, fun h => absurd h (by decide), fun h => absurd h (by decide), jWs_of 1617 (by decide +kernel) rfl⟩
theorem kf_X10_153 : jFl RX10 153 14 13 (.int) 0 := ⟨RX10, TX10, 36, tyX10, rfl, by decide, uin_X10, tyX10_ok, nmX10, rfl, fun h => absurd h (by decide), fun h => absurd h (by decide), jWs_of 1619 (by decide +kernel) rfl⟩
theorem kf_X10_162 : jFl RX10 162 14 16 (.int) 0 := ⟨RX10, TX10, 36, tyX10, rfl, by decide, uin_X10, tyX10_ok, nmX10, rfl, fun h => absurd h (by decide), fun h => absurd h (by decide), jWs_of 1622 (by decide +kernel) rfl⟩
theorem kf_X10_165 : jFl RX10 165 14 22 (.int) 0 := ⟨RX10, TX10, 36, tyX10, rfl, by decide, uin_X10, tyX10_ok, nmX10, rfl, fun h => absurd h (by decide), fun h => absurd h (by decide), jWs_of 1628 (by decide +kernel) rfl⟩
theorem kf_X10_175 : jFl RX10 175 14 14 (.int) 0 := ⟨RX10, TX10, 36, tyX10, rfl, by decide, uin_X10, tyX10_ok, nmX10, rfl, fun h => absurd h (by decide), fun h => absurd h (by decide), jWs_of 1620 (by decide +kernel) rfl⟩
theorem kf_X10_181 : jFl RX10 181 14 15 (.int) 0 := ⟨RX10, TX10, 36, tyX10, rfl, by decide, uin_X10, tyX10_ok, nmX10, rfl, fun h => absurd h (by decide), fun h => absurd h (by decide), jWs_of 1621 (by decide +kernel) rfl⟩
theorem kf_X10_202 : jFl RX10 202 14 26 (.int) 0 := ⟨RX10, TX10, 36, tyX10, rfl, by decide, uin_X10, tyX10_ok, nmX10, rfl, fun h => absurd h (by decide), fun h => absurd h (by decide), jWs_of 1632 (by decide +kernel) rfl⟩
theorem kf_X10_215 : jFl RX10 215 14 28 (.int) 0 := ⟨RX10, TX10, 36, tyX10, rfl, by decide, uin_X10, tyX10_ok, nmX10, rfl, fun h => absurd h (by decide), fun h => absurd h (by decide), jWs_of 1634 (by decide +kernel) rfl⟩
theorem kf_X10_237 : jFl RX10 237 14 29 (.int) 0 := ⟨RX10, TX10, 36, tyX10, rfl, by decide, uin_X10, tyX10_ok, nmX10, rfl, fun h => absurd h (by decide), fun h => absurd h (by decide), jWs_of 1635 (by decide +kernel) rfl⟩
theorem kf_X10_268 : jFl RX10 268 14 3 (.boolean) 0 := ⟨RX10, TX10, 36, tyX10, rfl, by decide, uin_X10, tyX10_ok, nmX10, rfl, fun h => absurd h (by decide), fun h => absurd h (by decide), jWs_of 1609 (by decide +kernel) rfl⟩
theorem ks_X10_88 : jMs RX10 88 jX10_in 3 := ⟨jh_X10_in, jWs_of 1728 (by decide +kernel) rfl, jWs_of 1729 (by decide +kernel) rfl⟩
theorem ks_X10_117 : jMs RX10 117 jX10_capital 1 := ⟨jh_X10_capital, jWs_of 1783 (by decide +kernel) rfl, jWs_of 1784 (by decide +kernel) rfl⟩
theorem ks_X10_131 : jMs RX10 131 jX10_small 1 := ⟨jh_X10_small, jWs_of 1826 (by decide +kernel) rfl, jWs_of 1827 (by decide +kernel) rfl⟩
theorem ks_X10_193 : jMs RX10 193 jX10_isLiteral 1 := ⟨jh_X10_isLiteral, jWs_of 1869 (by decide +kernel) rfl, jWs_of 1870 (by decide +kernel) rfl⟩
theorem kv_X10_84 : jMv RX10 84 jX10_copies 2 := ⟨jh_X10_copies, rfl, jWs_of 1743 (by decide +kernel) rfl, jWs_of 1745 (by decide +kernel) rfl, jWs_of 32 (by decide +kernel) rfl⟩
theorem kv_X10_92 : jMv RX10 92 jX10_groupOf 1 := ⟨jh_X10_groupOf, rfl, jWs_of 1806 (by decide +kernel) rfl, jWs_of 1808 (by decide +kernel) rfl, jWs_of 40 (by decide +kernel) rfl⟩
theorem kv_X10_99 : jMv RX10 99 jX10_keeps 0 := ⟨jh_X10_keeps, rfl, jWs_of 1739 (by decide +kernel) rfl, jWs_of 1741 (by decide +kernel) rfl, jWs_of 31 (by decide +kernel) rfl⟩
theorem kv_X10_102 : jMv RX10 102 jX10_isRecord 1 := ⟨jh_X10_isRecord, rfl, jWs_of 1751 (by decide +kernel) rfl, jWs_of 1753 (by decide +kernel) rfl, jWs_of 33 (by decide +kernel) rfl⟩
theorem kv_X10_106 : jMv RX10 106 jX10_moves 2 := ⟨jh_X10_moves, rfl, jWs_of 1755 (by decide +kernel) rfl, jWs_of 1757 (by decide +kernel) rfl, jWs_of 34 (by decide +kernel) rfl⟩
theorem kv_X10_109 : jMv RX10 109 jX10_longOf 2 := ⟨jh_X10_longOf, rfl, jWs_of 1771 (by decide +kernel) rfl, jWs_of 1773 (by decide +kernel) rfl, jWs_of 36 (by decide +kernel) rfl⟩
theorem kv_X10_113 : jMv RX10 113 jX10_charOf 3 := ⟨jh_X10_charOf, rfl, jWs_of 1779 (by decide +kernel) rfl, jWs_of 1781 (by decide +kernel) rfl, jWs_of 38 (by decide +kernel) rfl⟩
theorem kv_X10_120 : jMv RX10 120 jX10_compares 3 := ⟨jh_X10_compares, rfl, jWs_of 1775 (by decide +kernel) rfl, jWs_of 1777 (by decide +kernel) rfl, jWs_of 37 (by decide +kernel) rfl⟩
theorem kv_X10_123 : jMv RX10 123 jX10_comesAhead 4 := ⟨jh_X10_comesAhead, rfl, jWs_of 1767 (by decide +kernel) rfl, jWs_of 1769 (by decide +kernel) rfl, jWs_of 35 (by decide +kernel) rfl⟩
theorem kv_X10_127 : jMv RX10 127 jX10_wrongField 0 := ⟨jh_X10_wrongField, rfl, jWs_of 1790 (by decide +kernel) rfl, jWs_of 1792 (by decide +kernel) rfl, jWs_of 39 (by decide +kernel) rfl⟩
theorem kv_X10_134 : jMv RX10 134 jX10_isHome 1 := ⟨jh_X10_isHome, rfl, jWs_of 1822 (by decide +kernel) rfl, jWs_of 1824 (by decide +kernel) rfl, jWs_of 44 (by decide +kernel) rfl⟩
theorem kv_X10_137 : jMv RX10 137 jX10_isLine 2 := ⟨jh_X10_isLine, rfl, jWs_of 1818 (by decide +kernel) rfl, jWs_of 1820 (by decide +kernel) rfl, jWs_of 43 (by decide +kernel) rfl⟩
theorem kv_X10_141 : jMv RX10 141 jX10_countOf 1 := ⟨jh_X10_countOf, rfl, jWs_of 1810 (by decide +kernel) rfl, jWs_of 1812 (by decide +kernel) rfl, jWs_of 41 (by decide +kernel) rfl⟩
theorem kv_X10_144 : jMv RX10 144 jX10_lines 1 := ⟨jh_X10_lines, rfl, jWs_of 1814 (by decide +kernel) rfl, jWs_of 1816 (by decide +kernel) rfl, jWs_of 42 (by decide +kernel) rfl⟩
theorem kv_X10_156 : jMv RX10 156 jX10_here 0 := ⟨jh_X10_here, rfl, jWs_of 1841 (by decide +kernel) rfl, jWs_of 1843 (by decide +kernel) rfl, jWs_of 47 (by decide +kernel) rfl⟩
theorem kv_X10_159 : jMv RX10 159 jX10_isNext 1 := ⟨jh_X10_isNext, rfl, jWs_of 1857 (by decide +kernel) rfl, jWs_of 1859 (by decide +kernel) rfl, jWs_of 51 (by decide +kernel) rfl⟩
theorem kv_X10_168 : jMv RX10 168 jX10_digit 1 := ⟨jh_X10_digit, rfl, jWs_of 1861 (by decide +kernel) rfl, jWs_of 1863 (by decide +kernel) rfl, jWs_of 52 (by decide +kernel) rfl⟩
theorem kv_X10_171 : jMv RX10 171 jX10_wants 1 := ⟨jh_X10_wants, rfl, jWs_of 1865 (by decide +kernel) rfl, jWs_of 1867 (by decide +kernel) rfl, jWs_of 53 (by decide +kernel) rfl⟩
theorem kv_X10_178 : jMv RX10 178 jX10_lays 2 := ⟨jh_X10_lays, rfl, jWs_of 1849 (by decide +kernel) rfl, jWs_of 1851 (by decide +kernel) rfl, jWs_of 49 (by decide +kernel) rfl⟩
theorem kv_X10_184 : jMv RX10 184 jX10_condition 0 := ⟨jh_X10_condition, rfl, jWs_of 1853 (by decide +kernel) rfl, jWs_of 1855 (by decide +kernel) rfl, jWs_of 50 (by decide +kernel) rfl⟩
theorem kv_X10_187 : jMv RX10 187 jX10_item 0 := ⟨jh_X10_item, rfl, jWs_of 1837 (by decide +kernel) rfl, jWs_of 1839 (by decide +kernel) rfl, jWs_of 46 (by decide +kernel) rfl⟩
theorem kv_X10_190 : jMv RX10 190 jX10_bracket 0 := ⟨jh_X10_bracket, rfl, jWs_of 1845 (by decide +kernel) rfl, jWs_of 1847 (by decide +kernel) rfl, jWs_of 48 (by decide +kernel) rfl⟩
theorem kv_X10_196 : jMv RX10 196 jX10_reads 0 := ⟨jh_X10_reads, rfl, jWs_of 1833 (by decide +kernel) rfl, jWs_of 1835 (by decide +kernel) rfl, jWs_of 45 (by decide +kernel) rfl⟩
theorem kv_X10_199 : jMv RX10 199 jX10_readsTemplate 0 := ⟨jh_X10_readsTemplate, rfl, jWs_of 1876 (by decide +kernel) rfl, jWs_of 1878 (by decide +kernel) rfl, jWs_of 54 (by decide +kernel) rfl⟩
theorem kv_X10_205 : jMv RX10 205 jX10_deepOf 1 := ⟨jh_X10_deepOf, rfl, jWs_of 1884 (by decide +kernel) rfl, jWs_of 1886 (by decide +kernel) rfl, jWs_of 55 (by decide +kernel) rfl⟩
theorem kv_X10_208 : jMv RX10 208 jX10_holds 2 := ⟨jh_X10_holds, rfl, jWs_of 1892 (by decide +kernel) rfl, jWs_of 1894 (by decide +kernel) rfl, jWs_of 56 (by decide +kernel) rfl⟩
theorem kv_X10_211 : jMv RX10 211 jX10_sets 4 := ⟨jh_X10_sets, rfl, jWs_of 1904 (by decide +kernel) rfl, jWs_of 1906 (by decide +kernel) rfl, jWs_of 57 (by decide +kernel) rfl⟩
theorem kv_X10_218 : jMv RX10 218 jX10_writes 1 := ⟨jh_X10_writes, rfl, jWs_of 1960 (by decide +kernel) rfl, jWs_of 1962 (by decide +kernel) rfl, jWs_of 65 (by decide +kernel) rfl⟩
theorem kv_X10_221 : jMv RX10 221 jX10_hasRoom 1 := ⟨jh_X10_hasRoom, rfl, jWs_of 1956 (by decide +kernel) rfl, jWs_of 1958 (by decide +kernel) rfl, jWs_of 64 (by decide +kernel) rfl⟩
theorem kv_X10_224 : jMv RX10 224 jX10_addressLong 1 := ⟨jh_X10_addressLong, rfl, jWs_of 1964 (by decide +kernel) rfl, jWs_of 1966 (by decide +kernel) rfl, jWs_of 66 (by decide +kernel) rfl⟩
theorem kv_X10_227 : jMv RX10 227 jX10_writesAddress 1 := ⟨jh_X10_writesAddress, rfl, jWs_of 1968 (by decide +kernel) rfl, jWs_of 1970 (by decide +kernel) rfl, jWs_of 67 (by decide +kernel) rfl⟩
theorem kv_X10_230 : jMv RX10 230 jX10_writesField 3 := ⟨jh_X10_writesField, rfl, jWs_of 1972 (by decide +kernel) rfl, jWs_of 1974 (by decide +kernel) rfl, jWs_of 68 (by decide +kernel) rfl⟩
theorem kv_X10_234 : jMv RX10 234 jX10_gives 2 := ⟨jh_X10_gives, rfl, jWs_of 1952 (by decide +kernel) rfl, jWs_of 1954 (by decide +kernel) rfl, jWs_of 63 (by decide +kernel) rfl⟩
theorem kv_X10_240 : jMv RX10 240 jX10_isSame 3 := ⟨jh_X10_isSame, rfl, jWs_of 1940 (by decide +kernel) rfl, jWs_of 1942 (by decide +kernel) rfl, jWs_of 61 (by decide +kernel) rfl⟩
theorem kv_X10_243 : jMv RX10 243 jX10_isOut 1 := ⟨jh_X10_isOut, rfl, jWs_of 1928 (by decide +kernel) rfl, jWs_of 1930 (by decide +kernel) rfl, jWs_of 58 (by decide +kernel) rfl⟩
theorem kv_X10_246 : jMv RX10 246 jX10_areLike 2 := ⟨jh_X10_areLike, rfl, jWs_of 1936 (by decide +kernel) rfl, jWs_of 1938 (by decide +kernel) rfl, jWs_of 60 (by decide +kernel) rfl⟩
theorem kv_X10_249 : jMv RX10 249 jX10_keptOf 3 := ⟨jh_X10_keptOf, rfl, jWs_of 1932 (by decide +kernel) rfl, jWs_of 1934 (by decide +kernel) rfl, jWs_of 59 (by decide +kernel) rfl⟩
theorem kv_X10_253 : jMv RX10 253 jX10_makes 1 := ⟨jh_X10_makes, rfl, jWs_of 1948 (by decide +kernel) rfl, jWs_of 1950 (by decide +kernel) rfl, jWs_of 62 (by decide +kernel) rfl⟩
theorem kv_X10_256 : jMv RX10 256 jX10_reasonOf 3 := ⟨jh_X10_reasonOf, rfl, jWs_of 1980 (by decide +kernel) rfl, jWs_of 1982 (by decide +kernel) rfl, jWs_of 69 (by decide +kernel) rfl⟩
theorem kv_X10_259 : jMv RX10 259 jX10_keepsChain 1 := ⟨jh_X10_keepsChain, rfl, jWs_of 1988 (by decide +kernel) rfl, jWs_of 1990 (by decide +kernel) rfl, jWs_of 70 (by decide +kernel) rfl⟩
theorem kv_X10_262 : jMv RX10 262 jX10_unasked 1 := ⟨jh_X10_unasked, rfl, jWs_of 1996 (by decide +kernel) rfl, jWs_of 1998 (by decide +kernel) rfl, jWs_of 71 (by decide +kernel) rfl⟩
theorem kv_X10_265 : jMv RX10 265 jX10_ranWith 1 := ⟨jh_X10_ranWith, rfl, jWs_of 2004 (by decide +kernel) rfl, jWs_of 2006 (by decide +kernel) rfl, jWs_of 72 (by decide +kernel) rfl⟩
theorem kp_X10_9 : jFl RX10 9 14 1 (.array .int) 2 := ⟨RX10, TX10, 36, tyX10, rfl, by decide, uin_X10, tyX10_ok, nmX10, rfl, fun h => absurd h (by decide), fun _ => ⟨rfl, rfl⟩, jWs_of 1607 (by decide +kernel) rfl⟩
theorem kp_X10_13 : jFl RX10 13 14 4 (.array .int) 2 := ⟨RX10, TX10, 36, tyX10, rfl, by decide, uin_X10, tyX10_ok, nmX10, rfl, fun h => absurd h (by decide), fun _ => ⟨rfl, rfl⟩, jWs_of 1610 (by decide +kernel) rfl⟩
theorem kp_X10_16 : jFl RX10 16 14 6 (.int) 1 := ⟨RX10, TX10, 36, tyX10, rfl, by decide, uin_X10, tyX10_ok, nmX10, rfl, fun _ => rfl, fun h => absurd h (by decide), jWs_of 1612 (by decide +kernel) rfl⟩
theorem kp_X10_20 : jFl RX10 20 14 7 (.array .int) 2 := ⟨RX10, TX10, 36, tyX10, rfl, by decide, uin_X10, tyX10_ok, nmX10, rfl, fun h => absurd h (by decide), fun _ => ⟨rfl, rfl⟩, jWs_of 1613 (by decide +kernel) rfl⟩
theorem kp_X10_23 : jFl RX10 23 14 8 (.array .int) 2 := ⟨RX10, TX10, 36, tyX10, rfl, by decide, uin_X10, tyX10_ok, nmX10, rfl, fun h => absurd h (by decide), fun _ => ⟨rfl, rfl⟩, jWs_of 1614 (by decide +kernel) rfl⟩
theorem kp_X10_26 : jFl RX10 26 14 9 (.array .int) 2 := ⟨RX10, TX10, 36, tyX10, rfl, by decide, uin_X10, tyX10_ok, nmX10, rfl, fun h => absurd h (by decide), fun _ => ⟨rfl, rfl⟩, jWs_of 1615 (by decide +kernel) rfl⟩
theorem kp_X10_29 : jFl RX10 29 14 10 (.array .int) 2 := ⟨RX10, TX10, 36, tyX10, rfl, by decide, uin_X10, tyX10_ok, nmX10, rfl, fun h => absurd h (by decide), fun _ => ⟨rfl, rfl⟩, jWs_of 1616 (by decide +kernel) rfl⟩
theorem kp_X10_32 : jFl RX10 32 14 17 (.array .int) 2 := ⟨RX10, TX10, 36, tyX10, rfl, by decide, uin_X10, tyX10_ok, nmX10, rfl, fun h => absurd h (by decide), fun _ => ⟨rfl, rfl⟩, jWs_of 1623 (by decide +kernel) rfl⟩
theorem kp_X10_35 : jFl RX10 35 14 18 (.array .int) 2 := ⟨RX10, TX10, 36, tyX10, rfl, by decide, uin_X10, tyX10_ok, nmX10, rfl, fun h => absurd h (by decide), fun _ => ⟨rfl, rfl⟩, jWs_of 1624 (by decide +kernel) rfl⟩
theorem kp_X10_38 : jFl RX10 38 14 19 (.array .int) 2 := ⟨RX10, TX10, 36, tyX10, rfl, by decide, uin_X10, tyX10_ok, nmX10, rfl, fun h => absurd h (by decide), fun _ => ⟨rfl, rfl⟩, jWs_of 1625 (by decide +kernel) rfl⟩
theorem kp_X10_41 : jFl RX10 41 14 20 (.array .int) 2 := ⟨RX10, TX10, 36, tyX10, rfl, by decide, uin_X10, tyX10_ok, nmX10, rfl, fun h => absurd h (by decide), fun _ => ⟨rfl, rfl⟩, jWs_of 1626 (by decide +kernel) rfl⟩
theorem kp_X10_44 : jFl RX10 44 14 21 (.array .int) 2 := ⟨RX10, TX10, 36, tyX10, rfl, by decide, uin_X10, tyX10_ok, nmX10, rfl, fun h => absurd h (by decide), fun _ => ⟨rfl, rfl⟩, jWs_of 1627 (by decide +kernel) rfl⟩
theorem kp_X10_47 : jFl RX10 47 14 23 (.array .int) 2 := ⟨RX10, TX10, 36, tyX10, rfl, by decide, uin_X10, tyX10_ok, nmX10, rfl, fun h => absurd h (by decide), fun _ => ⟨rfl, rfl⟩, jWs_of 1629 (by decide +kernel) rfl⟩
theorem kp_X10_50 : jFl RX10 50 14 24 (.array .int) 2 := ⟨RX10, TX10, 36, tyX10, rfl, by decide, uin_X10, tyX10_ok, nmX10, rfl, fun h => absurd h (by decide), fun _ => ⟨rfl, rfl⟩, jWs_of 1630 (by decide +kernel) rfl⟩
theorem kp_X10_53 : jFl RX10 53 14 25 (.array .boolean) 2 := ⟨RX10, TX10, 36, tyX10, rfl, by decide, uin_X10, tyX10_ok, nmX10, rfl, fun h => absurd h (by decide), fun _ => ⟨rfl, rfl⟩, jWs_of 1631 (by decide +kernel) rfl⟩
theorem kp_X10_57 : jFl RX10 57 14 27 (.array .int) 2 := ⟨RX10, TX10, 36, tyX10, rfl, by decide, uin_X10, tyX10_ok, nmX10, rfl, fun h => absurd h (by decide), fun _ => ⟨rfl, rfl⟩, jWs_of 1633 (by decide +kernel) rfl⟩
theorem kp_X10_60 : jFl RX10 60 14 30 (.int) 1 := ⟨RX10, TX10, 36, tyX10, rfl, by decide, uin_X10, tyX10_ok, nmX10, rfl, fun _ => rfl, fun h => absurd h (by decide), jWs_of 1636 (by decide +kernel) rfl⟩
theorem kp_X10_63 : jFl RX10 63 14 31 (.array .int) 2 := ⟨RX10, TX10, 36, tyX10, rfl, by decide, uin_X10, tyX10_ok, nmX10, rfl, fun h => absurd h (by decide), fun _ => ⟨rfl, rfl⟩, jWs_of 1637 (by decide +kernel) rfl⟩
theorem kp_X10_66 : jFl RX10 66 14 32 (.array .int) 2 := ⟨RX10, TX10, 36, tyX10, rfl, by decide, uin_X10, tyX10_ok, nmX10, rfl, fun h => absurd h (by decide), fun _ => ⟨rfl, rfl⟩, jWs_of 1638 (by decide +kernel) rfl⟩
theorem kp_X10_69 : jFl RX10 69 14 33 (.array .int) 2 := ⟨RX10, TX10, 36, tyX10, rfl, by decide, uin_X10, tyX10_ok, nmX10, rfl, fun h => absurd h (by decide), fun _ => ⟨rfl, rfl⟩, jWs_of 1639 (by decide +kernel) rfl⟩
theorem kp_X10_72 : jFl RX10 72 14 34 (.array .int) 2 := ⟨RX10, TX10, 36, tyX10, rfl, by decide, uin_X10, tyX10_ok, nmX10, rfl, fun h => absurd h (by decide), fun _ => ⟨rfl, rfl⟩, jWs_of 1640 (by decide +kernel) rfl⟩
theorem kp_X10_75 : jFl RX10 75 14 35 (.array .int) 2 := ⟨RX10, TX10, 36, tyX10, rfl, by decide, uin_X10, tyX10_ok, nmX10, rfl, fun h => absurd h (by decide), fun _ => ⟨rfl, rfl⟩, jWs_of 1641 (by decide +kernel) rfl⟩
theorem kp_X10_78 : jFl RX10 78 14 0 (.int) 1 := ⟨RX10, TX10, 36, tyX10, rfl, by decide, uin_X10, tyX10_ok, nmX10, rfl, fun _ => rfl, fun h => absurd h (by decide), jWs_of 1606 (by decide +kernel) rfl⟩
theorem kp_X10_81 : jFl RX10 81 14 2 (.int) 1 := ⟨RX10, TX10, 36, tyX10, rfl, by decide, uin_X10, tyX10_ok, nmX10, rfl, fun _ => rfl, fun h => absurd h (by decide), jWs_of 1608 (by decide +kernel) rfl⟩
theorem kp_X10_96 : jFl RX10 96 14 5 (.int) 1 := ⟨RX10, TX10, 36, tyX10, rfl, by decide, uin_X10, tyX10_ok, nmX10, rfl, fun _ => rfl, fun h => absurd h (by decide), jWs_of 1611 (by decide +kernel) rfl⟩
theorem kp_X10_147 : jFl RX10 147 14 12 (.int) 1 := ⟨RX10, TX10, 36, tyX10, rfl, by decide, uin_X10, tyX10_ok, nmX10, rfl, fun _ => rfl, fun h => absurd h (by decide), jWs_of 1618 (by decide +kernel) rfl⟩
theorem kp_X10_150 : jFl RX10 150 14 11 (.int) 1 := ⟨RX10, TX10, 36, tyX10, rfl, by decide, uin_X10, tyX10_ok, nmX10, rfl, fun _ => rfl, fun h => absurd h (by decide), jWs_of 1617 (by decide +kernel) rfl⟩
theorem kp_X10_153 : jFl RX10 153 14 13 (.int) 1 := ⟨RX10, TX10, 36, tyX10, rfl, by decide, uin_X10, tyX10_ok, nmX10, rfl, fun _ => rfl, fun h => absurd h (by decide), jWs_of 1619 (by decide +kernel) rfl⟩
theorem kp_X10_162 : jFl RX10 162 14 16 (.int) 1 := ⟨RX10, TX10, 36, tyX10, rfl, by decide, uin_X10, tyX10_ok, nmX10, rfl, fun _ => rfl, fun h => absurd h (by decide), jWs_of 1622 (by decide +kernel) rfl⟩
theorem kp_X10_165 : jFl RX10 165 14 22 (.int) 1 := ⟨RX10, TX10, 36, tyX10, rfl, by decide, uin_X10, tyX10_ok, nmX10, rfl, fun _ => rfl, fun h => absurd h (by decide), jWs_of 1628 (by decide +kernel) rfl⟩
theorem kp_X10_175 : jFl RX10 175 14 14 (.int) 1 := ⟨RX10, TX10, 36, tyX10, rfl, by decide, uin_X10, tyX10_ok, nmX10, rfl, fun _ => rfl, fun h => absurd h (by decide), jWs_of 1620 (by decide +kernel) rfl⟩
theorem kp_X10_181 : jFl RX10 181 14 15 (.int) 1 := ⟨RX10, TX10, 36, tyX10, rfl, by decide, uin_X10, tyX10_ok, nmX10, rfl, fun _ => rfl, fun h => absurd h (by decide), jWs_of 1621 (by decide +kernel) rfl⟩
theorem kp_X10_202 : jFl RX10 202 14 26 (.int) 1 := ⟨RX10, TX10, 36, tyX10, rfl, by decide, uin_X10, tyX10_ok, nmX10, rfl, fun _ => rfl, fun h => absurd h (by decide), jWs_of 1632 (by decide +kernel) rfl⟩
theorem kp_X10_215 : jFl RX10 215 14 28 (.int) 1 := ⟨RX10, TX10, 36, tyX10, rfl, by decide, uin_X10, tyX10_ok, nmX10, rfl, fun _ => rfl, fun h => absurd h (by decide), jWs_of 1634 (by decide +kernel) rfl⟩
theorem kp_X10_237 : jFl RX10 237 14 29 (.int) 1 := ⟨RX10, TX10, 36, tyX10, rfl, by decide, uin_X10, tyX10_ok, nmX10, rfl, fun _ => rfl, fun h => absurd h (by decide), jWs_of 1635 (by decide +kernel) rfl⟩
theorem kp_X10_268 : jFl RX10 268 14 3 (.boolean) 1 := ⟨RX10, TX10, 36, tyX10, rfl, by decide, uin_X10, tyX10_ok, nmX10, rfl, fun _ => rfl, fun h => absurd h (by decide), jWs_of 1609 (by decide +kernel) rfl⟩
theorem ka_X2_31 : Cond.classLink RX2 31 RX4 ∈ jWs := jWs_of 171 (by decide +kernel) rfl
theorem kf_X2_7 : jFl RX2 7 6 2 (.int) 0 := ⟨RX2, TX2, 6, tyX2, rfl, by decide, uin_X2, tyX2_ok, nmX2, rfl, fun h => absurd h (by decide), fun h => absurd h (by decide), jWs_of 176 (by decide +kernel) rfl⟩
theorem kf_X2_33 : jFl RX2 33 6 1 (.array (.object "MailMerge$Piece")) 0 := ⟨RX2, TX2, 6, tyX2, rfl, by decide, uin_X2, tyX2_ok, nmX2, rfl, fun h => absurd h (by decide), fun h => absurd h (by decide), jWs_of 175 (by decide +kernel) rfl⟩
theorem ks_X2_25 : jMs RX2 25 jJ9_max_7cf53 2 := ⟨jh_J9_max_7cf53, jWs_of 168 (by decide +kernel) rfl, jWs_of 169 (by decide +kernel) rfl⟩
theorem kp_X2_7 : jFl RX2 7 6 2 (.int) 1 := ⟨RX2, TX2, 6, tyX2, rfl, by decide, uin_X2, tyX2_ok, nmX2, rfl, fun _ => rfl, fun h => absurd h (by decide), jWs_of 176 (by decide +kernel) rfl⟩
theorem kp_X2_13 : jFl RX2 13 6 3 (.int) 1 := ⟨RX2, TX2, 6, tyX2, rfl, by decide, uin_X2, tyX2_ok, nmX2, rfl, fun _ => rfl, fun h => absurd h (by decide), jWs_of 180 (by decide +kernel) rfl⟩
theorem kp_X2_16 : jFl RX2 16 6 4 (.int) 1 := ⟨RX2, TX2, 6, tyX2, rfl, by decide, uin_X2, tyX2_ok, nmX2, rfl, fun _ => rfl, fun h => absurd h (by decide), jWs_of 183 (by decide +kernel) rfl⟩
theorem kp_X2_19 : jFl RX2 19 6 5 (.int) 1 := ⟨RX2, TX2, 6, tyX2, rfl, by decide, uin_X2, tyX2_ok, nmX2, rfl, fun _ => rfl, fun h => absurd h (by decide), jWs_of 186 (by decide +kernel) rfl⟩
theorem kp_X2_22 : jFl RX2 22 6 0 (.int) 2 := ⟨RX2, TX2, 6, tyX2, rfl, by decide, uin_X2, tyX2_ok, nmX2, rfl, fun h => absurd h (by decide), fun _ => ⟨rfl, rfl⟩, jWs_of 173 (by decide +kernel) rfl⟩
theorem kp_X2_33 : jFl RX2 33 6 1 (.array (.object "MailMerge$Piece")) 2 := ⟨RX2, TX2, 6, tyX2, rfl, by decide, uin_X2, tyX2_ok, nmX2, rfl, fun h => absurd h (by decide), fun _ => ⟨rfl, rfl⟩, jWs_of 175 (by decide +kernel) rfl⟩
theorem ka_X3_9 : Cond.classLink RX3 9 RX6 ∈ jWs := jWs_of 257 (by decide +kernel) rfl
theorem kf_X3_11 : jFl RX3 11 7 0 (.array (.object "MailMerge$Sheet")) 0 := ⟨RX3, TX3, 2, tyX3, rfl, by decide, uin_X3, tyX3_ok, nmX3, rfl, fun h => absurd h (by decide), fun h => absurd h (by decide), jWs_of 295 (by decide +kernel) rfl⟩
theorem kf_X3_17 : jFl RX3 17 7 1 (.int) 0 := ⟨RX3, TX3, 2, tyX3, rfl, by decide, uin_X3, tyX3_ok, nmX3, rfl, fun h => absurd h (by decide), fun h => absurd h (by decide), jWs_of 297 (by decide +kernel) rfl⟩
theorem kf_X3_22 : jFl RX3 22 9 1 (.int) 0 := ⟨RX5, TX5, 8, tyX5, rfl, by decide, uin_X5, tyX5_ok, nmX5, rfl, fun h => absurd h (by decide), fun h => absurd h (by decide), jWs_of 216 (by decide +kernel) rfl⟩
theorem kf_X3_43 : jFl RX3 43 9 5 (.int) 0 := ⟨RX5, TX5, 8, tyX5, rfl, by decide, uin_X5, tyX5_ok, nmX5, rfl, fun h => absurd h (by decide), fun h => absurd h (by decide), jWs_of 226 (by decide +kernel) rfl⟩
theorem kf_X3_54 : jFl RX3 54 10 4 (.int) 0 := ⟨RX6, TX6, 7, tyX6, rfl, by decide, uin_X6, tyX6_ok, nmX6, rfl, fun h => absurd h (by decide), fun h => absurd h (by decide), jWs_of 274 (by decide +kernel) rfl⟩
theorem kf_X3_57 : jFl RX3 57 10 2 (.int) 0 := ⟨RX6, TX6, 7, tyX6, rfl, by decide, uin_X6, tyX6_ok, nmX6, rfl, fun h => absurd h (by decide), fun h => absurd h (by decide), jWs_of 269 (by decide +kernel) rfl⟩
theorem ks_X3_25 : jMs RX3 25 jJ9_min_7cf53 2 := ⟨jh_J9_min_7cf53, jWs_of 1418 (by decide +kernel) rfl, jWs_of 367 (by decide +kernel) rfl⟩
theorem kv_X3_31 : jMv RX3 31 jX5_entryAt 1 := ⟨jh_X5_entryAt, rfl, jWs_of 1419 (by decide +kernel) rfl, jWs_of 351 (by decide +kernel) rfl, jWs_of 352 (by decide +kernel) rfl⟩
theorem kv_X3_35 : jMv RX3 35 jX5_isExcluded 1 := ⟨jh_X5_isExcluded, rfl, jWs_of 1420 (by decide +kernel) rfl, jWs_of 355 (by decide +kernel) rfl, jWs_of 356 (by decide +kernel) rfl⟩
theorem kv_X3_39 : jMv RX3 39 jX6_leaveBlank 1 := ⟨jh_X6_leaveBlank, rfl, jWs_of 1421 (by decide +kernel) rfl, jWs_of 1422 (by decide +kernel) rfl, jWs_of 1423 (by decide +kernel) rfl⟩
theorem kv_X3_46 : jMv RX3 46 jX5_keptOf 3 := ⟨jh_X5_keptOf, rfl, jWs_of 1425 (by decide +kernel) rfl, jWs_of 347 (by decide +kernel) rfl, jWs_of 348 (by decide +kernel) rfl⟩
theorem kv_X3_50 : jMv RX3 50 jX6_write 2 := ⟨jh_X6_write, rfl, jWs_of 1426 (by decide +kernel) rfl, jWs_of 1427 (by decide +kernel) rfl, jWs_of 1428 (by decide +kernel) rfl⟩
theorem kn_X3_9 : jNw RX3 9 10 [.null, .null, .int 0, .int 0, .int 0, .int 0, .int 0] := ⟨RX6, TX6, 7, tyX6, rfl, uin_X6, tyX6_ok, rfl, by decide +kernel, jWs_of 257 (by decide +kernel) rfl, jWs_of 259 (by decide +kernel) rfl, jWs_of 84 (by decide +kernel) rfl⟩
theorem kp_X3_11 : jFl RX3 11 7 0 (.array (.object "MailMerge$Sheet")) 2 := ⟨RX3, TX3, 2, tyX3, rfl, by decide, uin_X3, tyX3_ok, nmX3, rfl, fun h => absurd h (by decide), fun _ => ⟨rfl, rfl⟩, jWs_of 295 (by decide +kernel) rfl⟩
theorem kp_X3_17 : jFl RX3 17 7 1 (.int) 1 := ⟨RX3, TX3, 2, tyX3, rfl, by decide, uin_X3, tyX3_ok, nmX3, rfl, fun _ => rfl, fun h => absurd h (by decide), jWs_of 297 (by decide +kernel) rfl⟩
theorem kf_X4_29 : jFl RX4 29 8 9 (.object "MailMerge$Condition") 0 := ⟨RX4, TX4, 11, tyX4, rfl, by decide, uin_X4, tyX4_ok, nmX4, rfl, fun h => absurd h (by decide), fun h => absurd h (by decide), jWs_of 1128 (by decide +kernel) rfl⟩
theorem kf_X4_54 : jFl RX4 54 4 3 (.object "MailMerge$Condition") 0 := ⟨RX0, TX0, 4, tyX0, rfl, by decide, uin_X0, tyX0_ok, nmX0, rfl, fun h => absurd h (by decide), fun h => absurd h (by decide), jWs_of 1276 (by decide +kernel) rfl⟩
theorem kv_X4_48 : jMv RX4 48 jX0_isTrueFor 1 := ⟨jh_X0_isTrueFor, rfl, jWs_of 1349 (by decide +kernel) rfl, jWs_of 1350 (by decide +kernel) rfl, jWs_of 1351 (by decide +kernel) rfl⟩
theorem kp_X4_7 : jFl RX4 7 8 4 (.char) 1 := ⟨RX4, TX4, 11, tyX4, rfl, by decide, uin_X4, tyX4_ok, nmX4, rfl, fun _ => rfl, fun h => absurd h (by decide), jWs_of 1113 (by decide +kernel) rfl⟩
theorem kp_X4_13 : jFl RX4 13 8 5 (.int) 1 := ⟨RX4, TX4, 11, tyX4, rfl, by decide, uin_X4, tyX4_ok, nmX4, rfl, fun _ => rfl, fun h => absurd h (by decide), jWs_of 1116 (by decide +kernel) rfl⟩
theorem kp_X4_17 : jFl RX4 17 8 6 (.char) 1 := ⟨RX4, TX4, 11, tyX4, rfl, by decide, uin_X4, tyX4_ok, nmX4, rfl, fun _ => rfl, fun h => absurd h (by decide), jWs_of 1119 (by decide +kernel) rfl⟩
theorem kp_X4_22 : jFl RX4 22 8 7 (.object "java/lang/String") 1 := ⟨RX4, TX4, 11, tyX4, rfl, by decide, uin_X4, tyX4_ok, nmX4, rfl, fun _ => rfl, fun h => absurd h (by decide), jWs_of 1122 (by decide +kernel) rfl⟩
theorem kp_X4_26 : jFl RX4 26 8 8 (.object "java/lang/String") 1 := ⟨RX4, TX4, 11, tyX4, rfl, by decide, uin_X4, tyX4_ok, nmX4, rfl, fun _ => rfl, fun h => absurd h (by decide), jWs_of 1125 (by decide +kernel) rfl⟩
theorem kp_X4_29 : jFl RX4 29 8 9 (.object "MailMerge$Condition") 1 := ⟨RX4, TX4, 11, tyX4, rfl, by decide, uin_X4, tyX4_ok, nmX4, rfl, fun _ => rfl, fun h => absurd h (by decide), jWs_of 1128 (by decide +kernel) rfl⟩
theorem kp_X4_33 : jFl RX4 33 8 10 (.int) 1 := ⟨RX4, TX4, 11, tyX4, rfl, by decide, uin_X4, tyX4_ok, nmX4, rfl, fun _ => rfl, fun h => absurd h (by decide), jWs_of 1130 (by decide +kernel) rfl⟩
theorem kp_X4_36 : jFl RX4 36 8 0 (.int) 2 := ⟨RX4, TX4, 11, tyX4, rfl, by decide, uin_X4, tyX4_ok, nmX4, rfl, fun h => absurd h (by decide), fun _ => ⟨rfl, rfl⟩, jWs_of 1101 (by decide +kernel) rfl⟩
theorem kp_X4_39 : jFl RX4 39 8 1 (.int) 2 := ⟨RX4, TX4, 11, tyX4, rfl, by decide, uin_X4, tyX4_ok, nmX4, rfl, fun h => absurd h (by decide), fun _ => ⟨rfl, rfl⟩, jWs_of 1104 (by decide +kernel) rfl⟩
theorem kp_X4_42 : jFl RX4 42 8 2 (.int) 2 := ⟨RX4, TX4, 11, tyX4, rfl, by decide, uin_X4, tyX4_ok, nmX4, rfl, fun h => absurd h (by decide), fun _ => ⟨rfl, rfl⟩, jWs_of 1107 (by decide +kernel) rfl⟩
theorem kp_X4_45 : jFl RX4 45 8 3 (.int) 2 := ⟨RX4, TX4, 11, tyX4, rfl, by decide, uin_X4, tyX4_ok, nmX4, rfl, fun h => absurd h (by decide), fun _ => ⟨rfl, rfl⟩, jWs_of 1110 (by decide +kernel) rfl⟩
theorem ka_X5_9 : Cond.classLink RX5 9 RX1 ∈ jWs := jWs_of 156 (by decide +kernel) rfl
theorem kf_X5_11 : jFl RX5 11 9 0 (.array (.object "MailMerge$Entry")) 0 := ⟨RX5, TX5, 8, tyX5, rfl, by decide, uin_X5, tyX5_ok, nmX5, rfl, fun h => absurd h (by decide), fun h => absurd h (by decide), jWs_of 214 (by decide +kernel) rfl⟩
theorem kf_X5_20 : jFl RX5 20 9 1 (.int) 0 := ⟨RX5, TX5, 8, tyX5, rfl, by decide, uin_X5, tyX5_ok, nmX5, rfl, fun h => absurd h (by decide), fun h => absurd h (by decide), jWs_of 215 (by decide +kernel) rfl⟩
theorem kf_X5_29 : jFl RX5 29 9 2 (.object "MailMerge$Layout") 0 := ⟨RX5, TX5, 8, tyX5, rfl, by decide, uin_X5, tyX5_ok, nmX5, rfl, fun h => absurd h (by decide), fun h => absurd h (by decide), jWs_of 218 (by decide +kernel) rfl⟩
theorem kf_X5_40 : jFl RX5 40 9 3 (.object "MailMerge$Text") 0 := ⟨RX5, TX5, 8, tyX5, rfl, by decide, uin_X5, tyX5_ok, nmX5, rfl, fun h => absurd h (by decide), fun h => absurd h (by decide), jWs_of 221 (by decide +kernel) rfl⟩
theorem kf_X5_44 : jFl RX5 44 9 4 (.int) 0 := ⟨RX5, TX5, 8, tyX5, rfl, by decide, uin_X5, tyX5_ok, nmX5, rfl, fun h => absurd h (by decide), fun h => absurd h (by decide), jWs_of 223 (by decide +kernel) rfl⟩
theorem kf_X5_47 : jFl RX5 47 9 5 (.int) 0 := ⟨RX5, TX5, 8, tyX5, rfl, by decide, uin_X5, tyX5_ok, nmX5, rfl, fun h => absurd h (by decide), fun h => absurd h (by decide), jWs_of 225 (by decide +kernel) rfl⟩
theorem kf_X5_50 : jFl RX5 50 9 6 (.int) 0 := ⟨RX5, TX5, 8, tyX5, rfl, by decide, uin_X5, tyX5_ok, nmX5, rfl, fun h => absurd h (by decide), fun h => absurd h (by decide), jWs_of 228 (by decide +kernel) rfl⟩
theorem kf_X5_53 : jFl RX5 53 9 7 (.int) 0 := ⟨RX5, TX5, 8, tyX5, rfl, by decide, uin_X5, tyX5_ok, nmX5, rfl, fun h => absurd h (by decide), fun h => absurd h (by decide), jWs_of 230 (by decide +kernel) rfl⟩
theorem kf_X5_94 : jFl RX5 94 5 0 (.int) 0 := ⟨RX1, TX1, 3, tyX1, rfl, by decide, uin_X1, tyX1_ok, nmX1, rfl, fun h => absurd h (by decide), fun h => absurd h (by decide), jWs_of 659 (by decide +kernel) rfl⟩
theorem kf_X5_109 : jFl RX5 109 5 1 (.int) 0 := ⟨RX1, TX1, 3, tyX1, rfl, by decide, uin_X1, tyX1_ok, nmX1, rfl, fun h => absurd h (by decide), fun h => absurd h (by decide), jWs_of 664 (by decide +kernel) rfl⟩
theorem ki_X5_26 : jMi RX5 26 jX2_init 1 := ⟨jh_X2_init, rfl, rfl, rfl, jWs_of 164 (by decide +kernel) rfl, jWs_of 165 (by decide +kernel) rfl⟩
theorem ki_X5_37 : jMi RX5 37 jX8_init 1 := ⟨jh_X8_init, rfl, rfl, rfl, jWs_of 205 (by decide +kernel) rfl, jWs_of 206 (by decide +kernel) rfl⟩
theorem ks_X5_60 : jMs RX5 60 jJ9_min_7cf53 2 := ⟨jh_J9_min_7cf53, jWs_of 762 (by decide +kernel) rfl, jWs_of 367 (by decide +kernel) rfl⟩
theorem ks_X5_70 : jMs RX5 70 jX5_comesBefore 4 := ⟨jh_X5_comesBefore, jWs_of 763 (by decide +kernel) rfl, jWs_of 764 (by decide +kernel) rfl⟩
theorem ks_X5_105 : jMs RX5 105 jX5_isBetter 3 := ⟨jh_X5_isBetter, jWs_of 433 (by decide +kernel) rfl, jWs_of 434 (by decide +kernel) rfl⟩
theorem kv_X5_17 : jMv RX5 17 jX5_reset 0 := ⟨jh_X5_reset, rfl, jWs_of 158 (by decide +kernel) rfl, jWs_of 159 (by decide +kernel) rfl, jWs_of 160 (by decide +kernel) rfl⟩
theorem kv_X5_56 : jMv RX5 56 jX5_moveTo 2 := ⟨jh_X5_moveTo, rfl, jWs_of 732 (by decide +kernel) rfl, jWs_of 733 (by decide +kernel) rfl, jWs_of 734 (by decide +kernel) rfl⟩
theorem kv_X5_66 : jMv RX5 66 jX5_entryAt 1 := ⟨jh_X5_entryAt, rfl, jWs_of 350 (by decide +kernel) rfl, jWs_of 351 (by decide +kernel) rfl, jWs_of 352 (by decide +kernel) rfl⟩
theorem kv_X5_74 : jMv RX5 74 jX1_textAt 1 := ⟨jh_X1_textAt, rfl, jWs_of 362 (by decide +kernel) rfl, jWs_of 363 (by decide +kernel) rfl, jWs_of 364 (by decide +kernel) rfl⟩
theorem kv_X5_78 : jMv RX5 78 jX8_isEmpty 0 := ⟨jh_X8_isEmpty, rfl, jWs_of 766 (by decide +kernel) rfl, jWs_of 767 (by decide +kernel) rfl, jWs_of 768 (by decide +kernel) rfl⟩
theorem kv_X5_82 : jMv RX5 82 jX8_compareWith 1 := ⟨jh_X8_compareWith, rfl, jWs_of 774 (by decide +kernel) rfl, jWs_of 388 (by decide +kernel) rfl, jWs_of 389 (by decide +kernel) rfl⟩
theorem kv_X5_86 : jMv RX5 86 jX8_isSameAs 1 := ⟨jh_X8_isSameAs, rfl, jWs_of 370 (by decide +kernel) rfl, jWs_of 371 (by decide +kernel) rfl, jWs_of 372 (by decide +kernel) rfl⟩
theorem kv_X5_90 : jMv RX5 90 jX1_filledFields 0 := ⟨jh_X1_filledFields, rfl, jWs_of 1036 (by decide +kernel) rfl, jWs_of 1028 (by decide +kernel) rfl, jWs_of 1029 (by decide +kernel) rfl⟩
theorem kv_X5_97 : jMv RX5 97 jX5_isExcluded 1 := ⟨jh_X5_isExcluded, rfl, jWs_of 354 (by decide +kernel) rfl, jWs_of 355 (by decide +kernel) rfl, jWs_of 356 (by decide +kernel) rfl⟩
theorem kv_X5_101 : jMv RX5 101 jX5_areDuplicates 2 := ⟨jh_X5_areDuplicates, rfl, jWs_of 358 (by decide +kernel) rfl, jWs_of 359 (by decide +kernel) rfl, jWs_of 360 (by decide +kernel) rfl⟩
theorem kn_X5_24 : jNw RX5 24 6 [.int 0, .null, .int 0, .int 0, .int 0, .int 0] := ⟨RX2, TX2, 6, tyX2, rfl, uin_X2, tyX2_ok, rfl, by decide +kernel, jWs_of 162 (by decide +kernel) rfl, jWs_of 163 (by decide +kernel) rfl, jWs_of 80 (by decide +kernel) rfl⟩
theorem kn_X5_33 : jNw RX5 33 12 [.null] := ⟨RX8, TX8, 1, tyX8, rfl, uin_X8, tyX8_ok, rfl, by decide +kernel, jWs_of 202 (by decide +kernel) rfl, jWs_of 203 (by decide +kernel) rfl, jWs_of 82 (by decide +kernel) rfl⟩
theorem kp_X5_11 : jFl RX5 11 9 0 (.array (.object "MailMerge$Entry")) 2 := ⟨RX5, TX5, 8, tyX5, rfl, by decide, uin_X5, tyX5_ok, nmX5, rfl, fun h => absurd h (by decide), fun _ => ⟨rfl, rfl⟩, jWs_of 214 (by decide +kernel) rfl⟩
theorem kp_X5_20 : jFl RX5 20 9 1 (.int) 1 := ⟨RX5, TX5, 8, tyX5, rfl, by decide, uin_X5, tyX5_ok, nmX5, rfl, fun _ => rfl, fun h => absurd h (by decide), jWs_of 215 (by decide +kernel) rfl⟩
theorem kp_X5_29 : jFl RX5 29 9 2 (.object "MailMerge$Layout") 1 := ⟨RX5, TX5, 8, tyX5, rfl, by decide, uin_X5, tyX5_ok, nmX5, rfl, fun _ => rfl, fun h => absurd h (by decide), jWs_of 218 (by decide +kernel) rfl⟩
theorem kp_X5_40 : jFl RX5 40 9 3 (.object "MailMerge$Text") 1 := ⟨RX5, TX5, 8, tyX5, rfl, by decide, uin_X5, tyX5_ok, nmX5, rfl, fun _ => rfl, fun h => absurd h (by decide), jWs_of 221 (by decide +kernel) rfl⟩
theorem kp_X5_44 : jFl RX5 44 9 4 (.int) 1 := ⟨RX5, TX5, 8, tyX5, rfl, by decide, uin_X5, tyX5_ok, nmX5, rfl, fun _ => rfl, fun h => absurd h (by decide), jWs_of 223 (by decide +kernel) rfl⟩
theorem kp_X5_47 : jFl RX5 47 9 5 (.int) 1 := ⟨RX5, TX5, 8, tyX5, rfl, by decide, uin_X5, tyX5_ok, nmX5, rfl, fun _ => rfl, fun h => absurd h (by decide), jWs_of 225 (by decide +kernel) rfl⟩
theorem kp_X5_50 : jFl RX5 50 9 6 (.int) 1 := ⟨RX5, TX5, 8, tyX5, rfl, by decide, uin_X5, tyX5_ok, nmX5, rfl, fun _ => rfl, fun h => absurd h (by decide), jWs_of 228 (by decide +kernel) rfl⟩
theorem kp_X5_53 : jFl RX5 53 9 7 (.int) 1 := ⟨RX5, TX5, 8, tyX5, rfl, by decide, uin_X5, tyX5_ok, nmX5, rfl, fun _ => rfl, fun h => absurd h (by decide), jWs_of 230 (by decide +kernel) rfl⟩
theorem kf_X6_9 : jFl RX6 9 10 0 (.array .char) 0 := ⟨RX6, TX6, 7, tyX6, rfl, by decide, uin_X6, tyX6_ok, nmX6, rfl, fun h => absurd h (by decide), fun h => absurd h (by decide), jWs_of 264 (by decide +kernel) rfl⟩
theorem kf_X6_15 : jFl RX6 15 10 1 (.array .int) 0 := ⟨RX6, TX6, 7, tyX6, rfl, by decide, uin_X6, tyX6_ok, nmX6, rfl, fun h => absurd h (by decide), fun h => absurd h (by decide), jWs_of 266 (by decide +kernel) rfl⟩
theorem kf_X6_19 : jFl RX6 19 10 2 (.int) 0 := ⟨RX6, TX6, 7, tyX6, rfl, by decide, uin_X6, tyX6_ok, nmX6, rfl, fun h => absurd h (by decide), fun h => absurd h (by decide), jWs_of 268 (by decide +kernel) rfl⟩
theorem kf_X6_23 : jFl RX6 23 10 3 (.int) 0 := ⟨RX6, TX6, 7, tyX6, rfl, by decide, uin_X6, tyX6_ok, nmX6, rfl, fun h => absurd h (by decide), fun h => absurd h (by decide), jWs_of 271 (by decide +kernel) rfl⟩
theorem kf_X6_26 : jFl RX6 26 10 4 (.int) 0 := ⟨RX6, TX6, 7, tyX6, rfl, by decide, uin_X6, tyX6_ok, nmX6, rfl, fun h => absurd h (by decide), fun h => absurd h (by decide), jWs_of 273 (by decide +kernel) rfl⟩
theorem kf_X6_29 : jFl RX6 29 10 5 (.int) 0 := ⟨RX6, TX6, 7, tyX6, rfl, by decide, uin_X6, tyX6_ok, nmX6, rfl, fun h => absurd h (by decide), fun h => absurd h (by decide), jWs_of 276 (by decide +kernel) rfl⟩
theorem kf_X6_32 : jFl RX6 32 10 6 (.boolean) 0 := ⟨RX6, TX6, 7, tyX6, rfl, by decide, uin_X6, tyX6_ok, nmX6, rfl, fun h => absurd h (by decide), fun h => absurd h (by decide), jWs_of 277 (by decide +kernel) rfl⟩
theorem kf_X6_40 : jFl RX6 40 9 7 (.int) 0 := ⟨RX5, TX5, 8, tyX5, rfl, by decide, uin_X5, tyX5_ok, nmX5, rfl, fun h => absurd h (by decide), fun h => absurd h (by decide), jWs_of 231 (by decide +kernel) rfl⟩
theorem kf_X6_49 : jFl RX6 49 9 2 (.object "MailMerge$Layout") 0 := ⟨RX5, TX5, 8, tyX5, rfl, by decide, uin_X5, tyX5_ok, nmX5, rfl, fun h => absurd h (by decide), fun h => absurd h (by decide), jWs_of 219 (by decide +kernel) rfl⟩
theorem kf_X6_53 : jFl RX6 53 6 2 (.int) 0 := ⟨RX2, TX2, 6, tyX2, rfl, by decide, uin_X2, tyX2_ok, nmX2, rfl, fun h => absurd h (by decide), fun h => absurd h (by decide), jWs_of 177 (by decide +kernel) rfl⟩
theorem kf_X6_68 : jFl RX6 68 8 10 (.int) 0 := ⟨RX4, TX4, 11, tyX4, rfl, by decide, uin_X4, tyX4_ok, nmX4, rfl, fun h => absurd h (by decide), fun h => absurd h (by decide), jWs_of 1131 (by decide +kernel) rfl⟩
theorem kf_X6_79 : jFl RX6 79 8 0 (.int) 0 := ⟨RX4, TX4, 11, tyX4, rfl, by decide, uin_X4, tyX4_ok, nmX4, rfl, fun h => absurd h (by decide), fun h => absurd h (by decide), jWs_of 1102 (by decide +kernel) rfl⟩
theorem kf_X6_82 : jFl RX6 82 8 4 (.char) 0 := ⟨RX4, TX4, 11, tyX4, rfl, by decide, uin_X4, tyX4_ok, nmX4, rfl, fun h => absurd h (by decide), fun h => absurd h (by decide), jWs_of 1115 (by decide +kernel) rfl⟩
theorem kf_X6_90 : jFl RX6 90 5 1 (.int) 0 := ⟨RX1, TX1, 3, tyX1, rfl, by decide, uin_X1, tyX1_ok, nmX1, rfl, fun h => absurd h (by decide), fun h => absurd h (by decide), jWs_of 662 (by decide +kernel) rfl⟩
theorem kf_X6_106 : jFl RX6 106 8 5 (.int) 0 := ⟨RX4, TX4, 11, tyX4, rfl, by decide, uin_X4, tyX4_ok, nmX4, rfl, fun h => absurd h (by decide), fun h => absurd h (by decide), jWs_of 1118 (by decide +kernel) rfl⟩
theorem kf_X6_113 : jFl RX6 113 8 6 (.char) 0 := ⟨RX4, TX4, 11, tyX4, rfl, by decide, uin_X4, tyX4_ok, nmX4, rfl, fun h => absurd h (by decide), fun h => absurd h (by decide), jWs_of 1121 (by decide +kernel) rfl⟩
theorem kf_X6_120 : jFl RX6 120 8 7 (.object "java/lang/String") 0 := ⟨RX4, TX4, 11, tyX4, rfl, by decide, uin_X4, tyX4_ok, nmX4, rfl, fun h => absurd h (by decide), fun h => absurd h (by decide), jWs_of 1123 (by decide +kernel) rfl⟩
theorem kf_X6_124 : jFl RX6 124 8 8 (.object "java/lang/String") 0 := ⟨RX4, TX4, 11, tyX4, rfl, by decide, uin_X4, tyX4_ok, nmX4, rfl, fun h => absurd h (by decide), fun h => absurd h (by decide), jWs_of 1126 (by decide +kernel) rfl⟩
theorem kf_X6_154 : jFl RX6 154 12 0 (.object "java/lang/String") 0 := ⟨RX8, TX8, 1, tyX8, rfl, by decide, uin_X8, tyX8_ok, nmX8, rfl, fun h => absurd h (by decide), fun h => absurd h (by decide), jWs_of 210 (by decide +kernel) rfl⟩
theorem kf_X6_156 : jFl RX6 156 8 2 (.int) 0 := ⟨RX4, TX4, 11, tyX4, rfl, by decide, uin_X4, tyX4_ok, nmX4, rfl, fun h => absurd h (by decide), fun h => absurd h (by decide), jWs_of 1108 (by decide +kernel) rfl⟩
theorem kf_X6_159 : jFl RX6 159 8 1 (.int) 0 := ⟨RX4, TX4, 11, tyX4, rfl, by decide, uin_X4, tyX4_ok, nmX4, rfl, fun h => absurd h (by decide), fun h => absurd h (by decide), jWs_of 1105 (by decide +kernel) rfl⟩
theorem kf_X6_162 : jFl RX6 162 8 3 (.int) 0 := ⟨RX4, TX4, 11, tyX4, rfl, by decide, uin_X4, tyX4_ok, nmX4, rfl, fun h => absurd h (by decide), fun h => absurd h (by decide), jWs_of 1111 (by decide +kernel) rfl⟩
theorem ks_X6_43 : jMs RX6 43 jJ9_min_7cf53 2 := ⟨jh_J9_min_7cf53, jWs_of 1431 (by decide +kernel) rfl, jWs_of 367 (by decide +kernel) rfl⟩
theorem ks_X6_150 : jMs RX6 150 jX8_capital 1 := ⟨jh_X8_capital, jWs_of 1465 (by decide +kernel) rfl, jWs_of 431 (by decide +kernel) rfl⟩
theorem kv_X6_36 : jMv RX6 36 jX6_leaveBlank 1 := ⟨jh_X6_leaveBlank, rfl, jWs_of 1430 (by decide +kernel) rfl, jWs_of 1422 (by decide +kernel) rfl, jWs_of 1423 (by decide +kernel) rfl⟩
theorem kv_X6_58 : jMv RX6 58 jX2_pieceAt 1 := ⟨jh_X2_pieceAt, rfl, jWs_of 1432 (by decide +kernel) rfl, jWs_of 1300 (by decide +kernel) rfl, jWs_of 1301 (by decide +kernel) rfl⟩
theorem kv_X6_62 : jMv RX6 62 jX4_isMetBy 1 := ⟨jh_X4_isMetBy, rfl, jWs_of 1433 (by decide +kernel) rfl, jWs_of 1346 (by decide +kernel) rfl, jWs_of 1347 (by decide +kernel) rfl⟩
theorem kv_X6_71 : jMv RX6 71 jX6_writePiece 3 := ⟨jh_X6_writePiece, rfl, jWs_of 1434 (by decide +kernel) rfl, jWs_of 1436 (by decide +kernel) rfl, jWs_of 22 (by decide +kernel) rfl⟩
theorem kv_X6_75 : jMv RX6 75 jX6_explain 2 := ⟨jh_X6_explain, rfl, jWs_of 1466 (by decide +kernel) rfl, jWs_of 1468 (by decide +kernel) rfl, jWs_of 28 (by decide +kernel) rfl⟩
theorem kv_X6_86 : jMv RX6 86 jX6_put 1 := ⟨jh_X6_put, rfl, jWs_of 1438 (by decide +kernel) rfl, jWs_of 1440 (by decide +kernel) rfl, jWs_of 23 (by decide +kernel) rfl⟩
theorem kv_X6_95 : jMv RX6 95 jX6_putNumber 1 := ⟨jh_X6_putNumber, rfl, jWs_of 1442 (by decide +kernel) rfl, jWs_of 1444 (by decide +kernel) rfl, jWs_of 24 (by decide +kernel) rfl⟩
theorem kv_X6_98 : jMv RX6 98 jX5_addressFields 1 := ⟨jh_X5_addressFields, rfl, jWs_of 1446 (by decide +kernel) rfl, jWs_of 1033 (by decide +kernel) rfl, jWs_of 1034 (by decide +kernel) rfl⟩
theorem kv_X6_102 : jMv RX6 102 jX6_putAddress 2 := ⟨jh_X6_putAddress, rfl, jWs_of 1447 (by decide +kernel) rfl, jWs_of 1449 (by decide +kernel) rfl, jWs_of 25 (by decide +kernel) rfl⟩
theorem kv_X6_109 : jMv RX6 109 jX1_textAt 1 := ⟨jh_X1_textAt, rfl, jWs_of 1451 (by decide +kernel) rfl, jWs_of 363 (by decide +kernel) rfl, jWs_of 364 (by decide +kernel) rfl⟩
theorem kv_X6_116 : jMv RX6 116 jX6_putField 2 := ⟨jh_X6_putField, rfl, jWs_of 1458 (by decide +kernel) rfl, jWs_of 1460 (by decide +kernel) rfl, jWs_of 27 (by decide +kernel) rfl⟩
theorem kv_X6_127 : jMv RX6 127 jX6_putAll 1 := ⟨jh_X6_putAll, rfl, jWs_of 1452 (by decide +kernel) rfl, jWs_of 1454 (by decide +kernel) rfl, jWs_of 26 (by decide +kernel) rfl⟩
theorem kv_X6_131 : jMv RX6 131 jJ0_length_8abf5 0 := ⟨jh_J0_length_8abf5, rfl, jWs_of 1456 (by decide +kernel) rfl, jWs_of 379 (by decide +kernel) rfl, jWs_of 380 (by decide +kernel) rfl⟩
theorem kv_X6_136 : jMv RX6 136 jJ0_charAt_5068e 1 := ⟨jh_J0_charAt_5068e, rfl, jWs_of 1457 (by decide +kernel) rfl, jWs_of 393 (by decide +kernel) rfl, jWs_of 394 (by decide +kernel) rfl⟩
theorem kv_X6_140 : jMv RX6 140 jX8_isEmpty 0 := ⟨jh_X8_isEmpty, rfl, jWs_of 1462 (by decide +kernel) rfl, jWs_of 767 (by decide +kernel) rfl, jWs_of 768 (by decide +kernel) rfl⟩
theorem kv_X6_146 : jMv RX6 146 jX8_length 0 := ⟨jh_X8_length, rfl, jWs_of 1463 (by decide +kernel) rfl, jWs_of 375 (by decide +kernel) rfl, jWs_of 376 (by decide +kernel) rfl⟩
theorem kv_X6_147 : jMv RX6 147 jX8_signAt 1 := ⟨jh_X8_signAt, rfl, jWs_of 1464 (by decide +kernel) rfl, jWs_of 1017 (by decide +kernel) rfl, jWs_of 1018 (by decide +kernel) rfl⟩
theorem kp_X6_9 : jFl RX6 9 10 0 (.array .char) 2 := ⟨RX6, TX6, 7, tyX6, rfl, by decide, uin_X6, tyX6_ok, nmX6, rfl, fun h => absurd h (by decide), fun _ => ⟨rfl, rfl⟩, jWs_of 264 (by decide +kernel) rfl⟩
theorem kp_X6_15 : jFl RX6 15 10 1 (.array .int) 2 := ⟨RX6, TX6, 7, tyX6, rfl, by decide, uin_X6, tyX6_ok, nmX6, rfl, fun h => absurd h (by decide), fun _ => ⟨rfl, rfl⟩, jWs_of 266 (by decide +kernel) rfl⟩
theorem kp_X6_19 : jFl RX6 19 10 2 (.int) 1 := ⟨RX6, TX6, 7, tyX6, rfl, by decide, uin_X6, tyX6_ok, nmX6, rfl, fun _ => rfl, fun h => absurd h (by decide), jWs_of 268 (by decide +kernel) rfl⟩
theorem kp_X6_23 : jFl RX6 23 10 3 (.int) 1 := ⟨RX6, TX6, 7, tyX6, rfl, by decide, uin_X6, tyX6_ok, nmX6, rfl, fun _ => rfl, fun h => absurd h (by decide), jWs_of 271 (by decide +kernel) rfl⟩
theorem kp_X6_26 : jFl RX6 26 10 4 (.int) 1 := ⟨RX6, TX6, 7, tyX6, rfl, by decide, uin_X6, tyX6_ok, nmX6, rfl, fun _ => rfl, fun h => absurd h (by decide), jWs_of 273 (by decide +kernel) rfl⟩
theorem kp_X6_29 : jFl RX6 29 10 5 (.int) 1 := ⟨RX6, TX6, 7, tyX6, rfl, by decide, uin_X6, tyX6_ok, nmX6, rfl, fun _ => rfl, fun h => absurd h (by decide), jWs_of 276 (by decide +kernel) rfl⟩
theorem kp_X6_32 : jFl RX6 32 10 6 (.boolean) 1 := ⟨RX6, TX6, 7, tyX6, rfl, by decide, uin_X6, tyX6_ok, nmX6, rfl, fun _ => rfl, fun h => absurd h (by decide), jWs_of 277 (by decide +kernel) rfl⟩
theorem kf_X7_9 : jFl RX7 9 11 1 (.int) 0 := ⟨RX7, TX7, 6, tyX7, rfl, by decide, uin_X7, tyX7_ok, nmX7, rfl, fun h => absurd h (by decide), fun h => absurd h (by decide), jWs_of 1062 (by decide +kernel) rfl⟩
theorem kf_X7_15 : jFl RX7 15 11 3 (.array .int) 0 := ⟨RX7, TX7, 6, tyX7, rfl, by decide, uin_X7, tyX7_ok, nmX7, rfl, fun h => absurd h (by decide), fun h => absurd h (by decide), jWs_of 1065 (by decide +kernel) rfl⟩
theorem kf_X7_19 : jFl RX7 19 11 4 (.int) 0 := ⟨RX7, TX7, 6, tyX7, rfl, by decide, uin_X7, tyX7_ok, nmX7, rfl, fun h => absurd h (by decide), fun h => absurd h (by decide), jWs_of 1066 (by decide +kernel) rfl⟩
theorem kf_X7_22 : jFl RX7 22 11 5 (.boolean) 0 := ⟨RX7, TX7, 6, tyX7, rfl, by decide, uin_X7, tyX7_ok, nmX7, rfl, fun h => absurd h (by decide), fun h => absurd h (by decide), jWs_of 1067 (by decide +kernel) rfl⟩
theorem kf_X7_26 : jFl RX7 26 11 2 (.object "java/lang/String") 0 := ⟨RX7, TX7, 6, tyX7, rfl, by decide, uin_X7, tyX7_ok, nmX7, rfl, fun h => absurd h (by decide), fun h => absurd h (by decide), jWs_of 1064 (by decide +kernel) rfl⟩
theorem kf_X7_41 : jFl RX7 41 11 0 (.object "MailMerge$Layout") 0 := ⟨RX7, TX7, 6, tyX7, rfl, by decide, uin_X7, tyX7_ok, nmX7, rfl, fun h => absurd h (by decide), fun h => absurd h (by decide), jWs_of 1060 (by decide +kernel) rfl⟩
theorem kf_X7_103 : jFl RX7 103 8 9 (.object "MailMerge$Condition") 0 := ⟨RX4, TX4, 11, tyX4, rfl, by decide, uin_X4, tyX4_ok, nmX4, rfl, fun h => absurd h (by decide), fun h => absurd h (by decide), jWs_of 1129 (by decide +kernel) rfl⟩
theorem kf_X7_107 : jFl RX7 107 6 2 (.int) 0 := ⟨RX2, TX2, 6, tyX2, rfl, by decide, uin_X2, tyX2_ok, nmX2, rfl, fun h => absurd h (by decide), fun h => absurd h (by decide), jWs_of 178 (by decide +kernel) rfl⟩
theorem kf_X7_110 : jFl RX7 110 6 3 (.int) 0 := ⟨RX2, TX2, 6, tyX2, rfl, by decide, uin_X2, tyX2_ok, nmX2, rfl, fun h => absurd h (by decide), fun h => absurd h (by decide), jWs_of 181 (by decide +kernel) rfl⟩
theorem kf_X7_119 : jFl RX7 119 6 5 (.int) 0 := ⟨RX2, TX2, 6, tyX2, rfl, by decide, uin_X2, tyX2_ok, nmX2, rfl, fun h => absurd h (by decide), fun h => absurd h (by decide), jWs_of 187 (by decide +kernel) rfl⟩
theorem kf_X7_143 : jFl RX7 143 6 4 (.int) 0 := ⟨RX2, TX2, 6, tyX2, rfl, by decide, uin_X2, tyX2_ok, nmX2, rfl, fun h => absurd h (by decide), fun h => absurd h (by decide), jWs_of 184 (by decide +kernel) rfl⟩
theorem ki_X7_38 : jMi RX7 38 jX2_init 1 := ⟨jh_X2_init, rfl, rfl, rfl, jWs_of 1059 (by decide +kernel) rfl, jWs_of 165 (by decide +kernel) rfl⟩
theorem ki_X7_134 : jMi RX7 134 jX0_init 4 := ⟨jh_X0_init, rfl, rfl, rfl, jWs_of 1268 (by decide +kernel) rfl, jWs_of 1269 (by decide +kernel) rfl⟩
theorem ki_X7_156 : jMi RX7 156 jX4_init 4 := ⟨jh_X4_init, rfl, rfl, rfl, jWs_of 1096 (by decide +kernel) rfl, jWs_of 1097 (by decide +kernel) rfl⟩
theorem ks_X7_67 : jMs RX7 67 jX7_isLiteral 1 := ⟨jh_X7_isLiteral, jWs_of 1184 (by decide +kernel) rfl, jWs_of 1185 (by decide +kernel) rfl⟩
theorem ks_X7_113 : jMs RX7 113 jJ9_max_7cf53 2 := ⟨jh_J9_max_7cf53, jWs_of 1294 (by decide +kernel) rfl, jWs_of 169 (by decide +kernel) rfl⟩
theorem kv_X7_32 : jMv RX7 32 jJ0_length_8abf5 0 := ⟨jh_J0_length_8abf5, rfl, jWs_of 1058 (by decide +kernel) rfl, jWs_of 379 (by decide +kernel) rfl, jWs_of 380 (by decide +kernel) rfl⟩
theorem kv_X7_45 : jMv RX7 45 jX7_sign 0 := ⟨jh_X7_sign, rfl, jWs_of 1085 (by decide +kernel) rfl, jWs_of 1087 (by decide +kernel) rfl, jWs_of 6 (by decide +kernel) rfl⟩
theorem kv_X7_48 : jMv RX7 48 jX7_addPiece 1 := ⟨jh_X7_addPiece, rfl, jWs_of 1090 (by decide +kernel) rfl, jWs_of 1092 (by decide +kernel) rfl, jWs_of 7 (by decide +kernel) rfl⟩
theorem kv_X7_52 : jMv RX7 52 jX7_readBraces 0 := ⟨jh_X7_readBraces, rfl, jWs_of 1160 (by decide +kernel) rfl, jWs_of 1162 (by decide +kernel) rfl, jWs_of 8 (by decide +kernel) rfl⟩
theorem kv_X7_55 : jMv RX7 55 jX7_readWords 0 := ⟨jh_X7_readWords, rfl, jWs_of 1176 (by decide +kernel) rfl, jWs_of 1178 (by decide +kernel) rfl, jWs_of 12 (by decide +kernel) rfl⟩
theorem kv_X7_58 : jMv RX7 58 jX7_openBrackets 0 := ⟨jh_X7_openBrackets, rfl, jWs_of 1258 (by decide +kernel) rfl, jWs_of 1260 (by decide +kernel) rfl, jWs_of 14 (by decide +kernel) rfl⟩
theorem kv_X7_61 : jMv RX7 61 jX7_closeBrackets 0 := ⟨jh_X7_closeBrackets, rfl, jWs_of 1295 (by decide +kernel) rfl, jWs_of 1297 (by decide +kernel) rfl, jWs_of 18 (by decide +kernel) rfl⟩
theorem kv_X7_64 : jMv RX7 64 jX7_readLiteral 1 := ⟨jh_X7_readLiteral, rfl, jWs_of 1303 (by decide +kernel) rfl, jWs_of 1305 (by decide +kernel) rfl, jWs_of 19 (by decide +kernel) rfl⟩
theorem kv_X7_76 : jMv RX7 76 jX7_takeField 0 := ⟨jh_X7_takeField, rfl, jWs_of 1164 (by decide +kernel) rfl, jWs_of 1166 (by decide +kernel) rfl, jWs_of 9 (by decide +kernel) rfl⟩
theorem kv_X7_85 : jMv RX7 85 jX7_take 1 := ⟨jh_X7_take, rfl, jWs_of 1172 (by decide +kernel) rfl, jWs_of 1174 (by decide +kernel) rfl, jWs_of 11 (by decide +kernel) rfl⟩
theorem kv_X7_89 : jMv RX7 89 jX7_takeLiterals 0 := ⟨jh_X7_takeLiterals, rfl, jWs_of 1180 (by decide +kernel) rfl, jWs_of 1182 (by decide +kernel) rfl, jWs_of 13 (by decide +kernel) rfl⟩
theorem kv_X7_99 : jMv RX7 99 jX7_readCondition 1 := ⟨jh_X7_readCondition, rfl, jWs_of 1262 (by decide +kernel) rfl, jWs_of 1264 (by decide +kernel) rfl, jWs_of 15 (by decide +kernel) rfl⟩
theorem kv_X7_122 : jMv RX7 122 jX2_pieceAt 1 := ⟨jh_X2_pieceAt, rfl, jWs_of 1299 (by decide +kernel) rfl, jWs_of 1300 (by decide +kernel) rfl, jWs_of 1301 (by decide +kernel) rfl⟩
theorem kv_X7_130 : jMv RX7 130 jX7_takeDigit 1 := ⟨jh_X7_takeDigit, rfl, jWs_of 1168 (by decide +kernel) rfl, jWs_of 1170 (by decide +kernel) rfl, jWs_of 10 (by decide +kernel) rfl⟩
theorem kv_X7_137 : jMv RX7 137 jX7_takeRelation 0 := ⟨jh_X7_takeRelation, rfl, jWs_of 1286 (by decide +kernel) rfl, jWs_of 1288 (by decide +kernel) rfl, jWs_of 16 (by decide +kernel) rfl⟩
theorem kv_X7_140 : jMv RX7 140 jX7_takeNumber 0 := ⟨jh_X7_takeNumber, rfl, jWs_of 1290 (by decide +kernel) rfl, jWs_of 1292 (by decide +kernel) rfl, jWs_of 17 (by decide +kernel) rfl⟩
theorem kv_X7_146 : jMv RX7 146 jJ0_charAt_5068e 1 := ⟨jh_J0_charAt_5068e, rfl, jWs_of 1089 (by decide +kernel) rfl, jWs_of 393 (by decide +kernel) rfl, jWs_of 394 (by decide +kernel) rfl⟩
theorem kv_X7_150 : jMv RX7 150 jJ0_substring_37a41 2 := ⟨jh_J0_substring_37a41, rfl, jWs_of 1234 (by decide +kernel) rfl, jWs_of 1235 (by decide +kernel) rfl, jWs_of 1236 (by decide +kernel) rfl⟩
theorem kv_X7_159 : jMv RX7 159 jX2_addLast 1 := ⟨jh_X2_addLast, rfl, jWs_of 1156 (by decide +kernel) rfl, jWs_of 1157 (by decide +kernel) rfl, jWs_of 1158 (by decide +kernel) rfl⟩
theorem kv_X7_165 : jMv RX7 165 jJ0_indexOf_0f7a4 1 := ⟨jh_J0_indexOf_0f7a4, rfl, jWs_of 1188 (by decide +kernel) rfl, jWs_of 1189 (by decide +kernel) rfl, jWs_of 1190 (by decide +kernel) rfl⟩
theorem kn_X7_30 : jNw RX7 30 6 [.int 0, .null, .int 0, .int 0, .int 0, .int 0] := ⟨RX2, TX2, 6, tyX2, rfl, uin_X2, tyX2_ok, rfl, by decide +kernel, jWs_of 1057 (by decide +kernel) rfl, jWs_of 163 (by decide +kernel) rfl, jWs_of 80 (by decide +kernel) rfl⟩
theorem kn_X7_72 : jNw RX7 72 8 [.int 0, .int 0, .int 0, .int 0, .int 0, .int 0, .int 0, .null, .null, .null, .int 0] := ⟨RX4, TX4, 11, tyX4, rfl, uin_X4, tyX4_ok, rfl, by decide +kernel, jWs_of 1094 (by decide +kernel) rfl, jWs_of 1095 (by decide +kernel) rfl, jWs_of 104 (by decide +kernel) rfl⟩
theorem kn_X7_128 : jNw RX7 128 4 [.int 0, .int 0, .int 0, .null] := ⟨RX0, TX0, 4, tyX0, rfl, uin_X0, tyX0_ok, rfl, by decide +kernel, jWs_of 1266 (by decide +kernel) rfl, jWs_of 1267 (by decide +kernel) rfl, jWs_of 106 (by decide +kernel) rfl⟩
theorem kp_X7_9 : jFl RX7 9 11 1 (.int) 1 := ⟨RX7, TX7, 6, tyX7, rfl, by decide, uin_X7, tyX7_ok, nmX7, rfl, fun _ => rfl, fun h => absurd h (by decide), jWs_of 1062 (by decide +kernel) rfl⟩
theorem kp_X7_15 : jFl RX7 15 11 3 (.array .int) 2 := ⟨RX7, TX7, 6, tyX7, rfl, by decide, uin_X7, tyX7_ok, nmX7, rfl, fun h => absurd h (by decide), fun _ => ⟨rfl, rfl⟩, jWs_of 1065 (by decide +kernel) rfl⟩
theorem kp_X7_19 : jFl RX7 19 11 4 (.int) 1 := ⟨RX7, TX7, 6, tyX7, rfl, by decide, uin_X7, tyX7_ok, nmX7, rfl, fun _ => rfl, fun h => absurd h (by decide), jWs_of 1066 (by decide +kernel) rfl⟩
theorem kp_X7_22 : jFl RX7 22 11 5 (.boolean) 1 := ⟨RX7, TX7, 6, tyX7, rfl, by decide, uin_X7, tyX7_ok, nmX7, rfl, fun _ => rfl, fun h => absurd h (by decide), jWs_of 1067 (by decide +kernel) rfl⟩
theorem kp_X7_26 : jFl RX7 26 11 2 (.object "java/lang/String") 2 := ⟨RX7, TX7, 6, tyX7, rfl, by decide, uin_X7, tyX7_ok, nmX7, rfl, fun h => absurd h (by decide), fun _ => ⟨rfl, rfl⟩, jWs_of 1064 (by decide +kernel) rfl⟩
theorem kp_X7_41 : jFl RX7 41 11 0 (.object "MailMerge$Layout") 2 := ⟨RX7, TX7, 6, tyX7, rfl, by decide, uin_X7, tyX7_ok, nmX7, rfl, fun h => absurd h (by decide), fun _ => ⟨rfl, rfl⟩, jWs_of 1060 (by decide +kernel) rfl⟩
theorem kp_X7_71 : jFl RX7 71 8 4 (.char) 1 := ⟨RX4, TX4, 11, tyX4, rfl, by decide, uin_X4, tyX4_ok, nmX4, rfl, fun _ => rfl, fun h => absurd h (by decide), jWs_of 1114 (by decide +kernel) rfl⟩
theorem kp_X7_79 : jFl RX7 79 8 5 (.int) 1 := ⟨RX4, TX4, 11, tyX4, rfl, by decide, uin_X4, tyX4_ok, nmX4, rfl, fun _ => rfl, fun h => absurd h (by decide), jWs_of 1117 (by decide +kernel) rfl⟩
theorem kp_X7_82 : jFl RX7 82 8 6 (.char) 1 := ⟨RX4, TX4, 11, tyX4, rfl, by decide, uin_X4, tyX4_ok, nmX4, rfl, fun _ => rfl, fun h => absurd h (by decide), jWs_of 1120 (by decide +kernel) rfl⟩
theorem kp_X7_93 : jFl RX7 93 8 7 (.object "java/lang/String") 1 := ⟨RX4, TX4, 11, tyX4, rfl, by decide, uin_X4, tyX4_ok, nmX4, rfl, fun _ => rfl, fun h => absurd h (by decide), jWs_of 1124 (by decide +kernel) rfl⟩
theorem kp_X7_96 : jFl RX7 96 8 8 (.object "java/lang/String") 1 := ⟨RX4, TX4, 11, tyX4, rfl, by decide, uin_X4, tyX4_ok, nmX4, rfl, fun _ => rfl, fun h => absurd h (by decide), jWs_of 1127 (by decide +kernel) rfl⟩
theorem kp_X7_103 : jFl RX7 103 8 9 (.object "MailMerge$Condition") 1 := ⟨RX4, TX4, 11, tyX4, rfl, by decide, uin_X4, tyX4_ok, nmX4, rfl, fun _ => rfl, fun h => absurd h (by decide), jWs_of 1129 (by decide +kernel) rfl⟩
theorem kp_X7_110 : jFl RX7 110 6 3 (.int) 1 := ⟨RX2, TX2, 6, tyX2, rfl, by decide, uin_X2, tyX2_ok, nmX2, rfl, fun _ => rfl, fun h => absurd h (by decide), jWs_of 181 (by decide +kernel) rfl⟩
theorem kp_X7_119 : jFl RX7 119 6 5 (.int) 1 := ⟨RX2, TX2, 6, tyX2, rfl, by decide, uin_X2, tyX2_ok, nmX2, rfl, fun _ => rfl, fun h => absurd h (by decide), jWs_of 187 (by decide +kernel) rfl⟩
theorem kp_X7_125 : jFl RX7 125 8 10 (.int) 1 := ⟨RX4, TX4, 11, tyX4, rfl, by decide, uin_X4, tyX4_ok, nmX4, rfl, fun _ => rfl, fun h => absurd h (by decide), jWs_of 1132 (by decide +kernel) rfl⟩
theorem kp_X7_143 : jFl RX7 143 6 4 (.int) 1 := ⟨RX2, TX2, 6, tyX2, rfl, by decide, uin_X2, tyX2_ok, nmX2, rfl, fun _ => rfl, fun h => absurd h (by decide), jWs_of 184 (by decide +kernel) rfl⟩
theorem kf_X8_7 : jFl RX8 7 12 0 (.object "java/lang/String") 0 := ⟨RX8, TX8, 1, tyX8, rfl, by decide, uin_X8, tyX8_ok, nmX8, rfl, fun h => absurd h (by decide), fun h => absurd h (by decide), jWs_of 209 (by decide +kernel) rfl⟩
theorem ks_X8_32 : jMs RX8 32 jJ9_min_7cf53 2 := ⟨jh_J9_min_7cf53, jWs_of 391 (by decide +kernel) rfl, jWs_of 367 (by decide +kernel) rfl⟩
theorem ks_X8_38 : jMs RX8 38 jX8_capital 1 := ⟨jh_X8_capital, jWs_of 430 (by decide +kernel) rfl, jWs_of 431 (by decide +kernel) rfl⟩
theorem kv_X8_13 : jMv RX8 13 jJ0_length_8abf5 0 := ⟨jh_J0_length_8abf5, rfl, jWs_of 378 (by decide +kernel) rfl, jWs_of 379 (by decide +kernel) rfl, jWs_of 380 (by decide +kernel) rfl⟩
theorem kv_X8_19 : jMv RX8 19 jJ0_isEmpty_aae02 0 := ⟨jh_J0_isEmpty_aae02, rfl, jWs_of 770 (by decide +kernel) rfl, jWs_of 771 (by decide +kernel) rfl, jWs_of 772 (by decide +kernel) rfl⟩
theorem kv_X8_23 : jMv RX8 23 jJ0_charAt_5068e 1 := ⟨jh_J0_charAt_5068e, rfl, jWs_of 392 (by decide +kernel) rfl, jWs_of 393 (by decide +kernel) rfl, jWs_of 394 (by decide +kernel) rfl⟩
theorem kv_X8_27 : jMv RX8 27 jX8_length 0 := ⟨jh_X8_length, rfl, jWs_of 374 (by decide +kernel) rfl, jWs_of 375 (by decide +kernel) rfl, jWs_of 376 (by decide +kernel) rfl⟩
theorem kv_X8_28 : jMv RX8 28 jX8_compareWith 1 := ⟨jh_X8_compareWith, rfl, jWs_of 387 (by decide +kernel) rfl, jWs_of 388 (by decide +kernel) rfl, jWs_of 389 (by decide +kernel) rfl⟩
theorem kp_X8_7 : jFl RX8 7 12 0 (.object "java/lang/String") 2 := ⟨RX8, TX8, 1, tyX8, rfl, by decide, uin_X8, tyX8_ok, nmX8, rfl, fun h => absurd h (by decide), fun _ => ⟨rfl, rfl⟩, jWs_of 209 (by decide +kernel) rfl⟩
theorem ka_X9_16 : Cond.classLink RX9 16 RX5 ∈ jWs := jWs_of 150 (by decide +kernel) rfl
theorem kf_X9_10 : jFl RX9 10 13 0 (.object "java/lang/StringBuilder") 0 := ⟨RX9, TX9, 10, tyX9, rfl, by decide, uin_X9, tyX9_ok, nmX9, rfl, fun h => absurd h (by decide), fun h => absurd h (by decide), jWs_of 306 (by decide +kernel) rfl⟩
theorem kf_X9_19 : jFl RX9 19 13 1 (.object "MailMerge$Setup") 0 := ⟨RX9, TX9, 10, tyX9, rfl, by decide, uin_X9, tyX9_ok, nmX9, rfl, fun h => absurd h (by decide), fun h => absurd h (by decide), jWs_of 307 (by decide +kernel) rfl⟩
theorem kf_X9_23 : jFl RX9 23 13 2 (.object "MailMerge$Setup") 0 := ⟨RX9, TX9, 10, tyX9, rfl, by decide, uin_X9, tyX9_ok, nmX9, rfl, fun h => absurd h (by decide), fun h => absurd h (by decide), jWs_of 308 (by decide +kernel) rfl⟩
theorem kf_X9_26 : jFl RX9 26 13 3 (.array (.object "MailMerge$Setup")) 0 := ⟨RX9, TX9, 10, tyX9, rfl, by decide, uin_X9, tyX9_ok, nmX9, rfl, fun h => absurd h (by decide), fun h => absurd h (by decide), jWs_of 309 (by decide +kernel) rfl⟩
theorem kf_X9_33 : jFl RX9 33 13 4 (.object "MailMerge$Outcome") 0 := ⟨RX9, TX9, 10, tyX9, rfl, by decide, uin_X9, tyX9_ok, nmX9, rfl, fun h => absurd h (by decide), fun h => absurd h (by decide), jWs_of 310 (by decide +kernel) rfl⟩
theorem kf_X9_40 : jFl RX9 40 13 5 (.object "MailMerge$Sheet") 0 := ⟨RX9, TX9, 10, tyX9, rfl, by decide, uin_X9, tyX9_ok, nmX9, rfl, fun h => absurd h (by decide), fun h => absurd h (by decide), jWs_of 311 (by decide +kernel) rfl⟩
theorem kf_X9_44 : jFl RX9 44 13 6 (.array .int) 0 := ⟨RX9, TX9, 10, tyX9, rfl, by decide, uin_X9, tyX9_ok, nmX9, rfl, fun h => absurd h (by decide), fun h => absurd h (by decide), jWs_of 312 (by decide +kernel) rfl⟩
theorem kf_X9_48 : jFl RX9 48 13 7 (.int) 0 := ⟨RX9, TX9, 10, tyX9, rfl, by decide, uin_X9, tyX9_ok, nmX9, rfl, fun h => absurd h (by decide), fun h => absurd h (by decide), jWs_of 313 (by decide +kernel) rfl⟩
theorem kf_X9_52 : jFl RX9 52 13 8 (.int) 0 := ⟨RX9, TX9, 10, tyX9, rfl, by decide, uin_X9, tyX9_ok, nmX9, rfl, fun h => absurd h (by decide), fun h => absurd h (by decide), jWs_of 314 (by decide +kernel) rfl⟩
theorem kf_X9_55 : jFl RX9 55 13 9 (.boolean) 0 := ⟨RX9, TX9, 10, tyX9, rfl, by decide, uin_X9, tyX9_ok, nmX9, rfl, fun h => absurd h (by decide), fun h => absurd h (by decide), jWs_of 315 (by decide +kernel) rfl⟩
theorem kf_X9_59 : jFl RX9 59 9 1 (.int) 0 := ⟨RX5, TX5, 8, tyX5, rfl, by decide, uin_X5, tyX5_ok, nmX5, rfl, fun h => absurd h (by decide), fun h => absurd h (by decide), jWs_of 217 (by decide +kernel) rfl⟩
theorem kf_X9_163 : jFl RX9 163 5 1 (.int) 0 := ⟨RX1, TX1, 3, tyX1, rfl, by decide, uin_X1, tyX1_ok, nmX1, rfl, fun h => absurd h (by decide), fun h => absurd h (by decide), jWs_of 663 (by decide +kernel) rfl⟩
theorem kf_X9_166 : jFl RX9 166 5 0 (.int) 0 := ⟨RX1, TX1, 3, tyX1, rfl, by decide, uin_X1, tyX1_ok, nmX1, rfl, fun h => absurd h (by decide), fun h => absurd h (by decide), jWs_of 658 (by decide +kernel) rfl⟩
theorem kf_X9_203 : jFl RX9 203 11 1 (.int) 0 := ⟨RX7, TX7, 6, tyX7, rfl, by decide, uin_X7, tyX7_ok, nmX7, rfl, fun h => absurd h (by decide), fun h => absurd h (by decide), jWs_of 1063 (by decide +kernel) rfl⟩
theorem kf_X9_208 : jFl RX9 208 11 0 (.object "MailMerge$Layout") 0 := ⟨RX7, TX7, 6, tyX7, rfl, by decide, uin_X7, tyX7_ok, nmX7, rfl, fun h => absurd h (by decide), fun h => absurd h (by decide), jWs_of 1061 (by decide +kernel) rfl⟩
theorem kf_X9_212 : jFl RX9 212 9 2 (.object "MailMerge$Layout") 0 := ⟨RX5, TX5, 8, tyX5, rfl, by decide, uin_X5, tyX5_ok, nmX5, rfl, fun h => absurd h (by decide), fun h => absurd h (by decide), jWs_of 220 (by decide +kernel) rfl⟩
theorem kf_X9_213 : jFl RX9 213 6 2 (.int) 0 := ⟨RX2, TX2, 6, tyX2, rfl, by decide, uin_X2, tyX2_ok, nmX2, rfl, fun h => absurd h (by decide), fun h => absurd h (by decide), jWs_of 179 (by decide +kernel) rfl⟩
theorem kf_X9_218 : jFl RX9 218 6 0 (.int) 0 := ⟨RX2, TX2, 6, tyX2, rfl, by decide, uin_X2, tyX2_ok, nmX2, rfl, fun h => absurd h (by decide), fun h => absurd h (by decide), jWs_of 174 (by decide +kernel) rfl⟩
theorem kf_X9_220 : jFl RX9 220 6 3 (.int) 0 := ⟨RX2, TX2, 6, tyX2, rfl, by decide, uin_X2, tyX2_ok, nmX2, rfl, fun h => absurd h (by decide), fun h => absurd h (by decide), jWs_of 182 (by decide +kernel) rfl⟩
theorem kf_X9_223 : jFl RX9 223 6 4 (.int) 0 := ⟨RX2, TX2, 6, tyX2, rfl, by decide, uin_X2, tyX2_ok, nmX2, rfl, fun h => absurd h (by decide), fun h => absurd h (by decide), jWs_of 185 (by decide +kernel) rfl⟩
theorem kf_X9_226 : jFl RX9 226 6 5 (.int) 0 := ⟨RX2, TX2, 6, tyX2, rfl, by decide, uin_X2, tyX2_ok, nmX2, rfl, fun h => absurd h (by decide), fun h => absurd h (by decide), jWs_of 188 (by decide +kernel) rfl⟩
theorem kf_X9_235 : jFl RX9 235 8 0 (.int) 0 := ⟨RX4, TX4, 11, tyX4, rfl, by decide, uin_X4, tyX4_ok, nmX4, rfl, fun h => absurd h (by decide), fun h => absurd h (by decide), jWs_of 1103 (by decide +kernel) rfl⟩
theorem kf_X9_240 : jFl RX9 240 8 1 (.int) 0 := ⟨RX4, TX4, 11, tyX4, rfl, by decide, uin_X4, tyX4_ok, nmX4, rfl, fun h => absurd h (by decide), fun h => absurd h (by decide), jWs_of 1106 (by decide +kernel) rfl⟩
theorem kf_X9_243 : jFl RX9 243 8 2 (.int) 0 := ⟨RX4, TX4, 11, tyX4, rfl, by decide, uin_X4, tyX4_ok, nmX4, rfl, fun h => absurd h (by decide), fun h => absurd h (by decide), jWs_of 1109 (by decide +kernel) rfl⟩
theorem kf_X9_246 : jFl RX9 246 8 3 (.int) 0 := ⟨RX4, TX4, 11, tyX4, rfl, by decide, uin_X4, tyX4_ok, nmX4, rfl, fun h => absurd h (by decide), fun h => absurd h (by decide), jWs_of 1112 (by decide +kernel) rfl⟩
theorem kf_X9_258 : jFl RX9 258 9 3 (.object "MailMerge$Text") 0 := ⟨RX5, TX5, 8, tyX5, rfl, by decide, uin_X5, tyX5_ok, nmX5, rfl, fun h => absurd h (by decide), fun h => absurd h (by decide), jWs_of 222 (by decide +kernel) rfl⟩
theorem kf_X9_264 : jFl RX9 264 9 4 (.int) 0 := ⟨RX5, TX5, 8, tyX5, rfl, by decide, uin_X5, tyX5_ok, nmX5, rfl, fun h => absurd h (by decide), fun h => absurd h (by decide), jWs_of 224 (by decide +kernel) rfl⟩
theorem kf_X9_269 : jFl RX9 269 9 5 (.int) 0 := ⟨RX5, TX5, 8, tyX5, rfl, by decide, uin_X5, tyX5_ok, nmX5, rfl, fun h => absurd h (by decide), fun h => absurd h (by decide), jWs_of 227 (by decide +kernel) rfl⟩
theorem kf_X9_277 : jFl RX9 277 9 6 (.int) 0 := ⟨RX5, TX5, 8, tyX5, rfl, by decide, uin_X5, tyX5_ok, nmX5, rfl, fun h => absurd h (by decide), fun h => absurd h (by decide), jWs_of 229 (by decide +kernel) rfl⟩
theorem kf_X9_282 : jFl RX9 282 9 7 (.int) 0 := ⟨RX5, TX5, 8, tyX5, rfl, by decide, uin_X5, tyX5_ok, nmX5, rfl, fun h => absurd h (by decide), fun h => absurd h (by decide), jWs_of 232 (by decide +kernel) rfl⟩
theorem kf_X9_300 : jFl RX9 300 10 4 (.int) 0 := ⟨RX6, TX6, 7, tyX6, rfl, by decide, uin_X6, tyX6_ok, nmX6, rfl, fun h => absurd h (by decide), fun h => absurd h (by decide), jWs_of 275 (by decide +kernel) rfl⟩
theorem kf_X9_313 : jFl RX9 313 10 2 (.int) 0 := ⟨RX6, TX6, 7, tyX6, rfl, by decide, uin_X6, tyX6_ok, nmX6, rfl, fun h => absurd h (by decide), fun h => absurd h (by decide), jWs_of 270 (by decide +kernel) rfl⟩
theorem kf_X9_314 : jFl RX9 314 10 0 (.array .char) 0 := ⟨RX6, TX6, 7, tyX6, rfl, by decide, uin_X6, tyX6_ok, nmX6, rfl, fun h => absurd h (by decide), fun h => absurd h (by decide), jWs_of 265 (by decide +kernel) rfl⟩
theorem kf_X9_320 : jFl RX9 320 10 3 (.int) 0 := ⟨RX6, TX6, 7, tyX6, rfl, by decide, uin_X6, tyX6_ok, nmX6, rfl, fun h => absurd h (by decide), fun h => absurd h (by decide), jWs_of 272 (by decide +kernel) rfl⟩
theorem kf_X9_325 : jFl RX9 325 10 1 (.array .int) 0 := ⟨RX6, TX6, 7, tyX6, rfl, by decide, uin_X6, tyX6_ok, nmX6, rfl, fun h => absurd h (by decide), fun h => absurd h (by decide), jWs_of 267 (by decide +kernel) rfl⟩
theorem kf_X9_349 : jFl RX9 349 7 1 (.int) 0 := ⟨RX3, TX3, 2, tyX3, rfl, by decide, uin_X3, tyX3_ok, nmX3, rfl, fun h => absurd h (by decide), fun h => absurd h (by decide), jWs_of 298 (by decide +kernel) rfl⟩
theorem kf_X9_370 : jFl RX9 370 7 0 (.array (.object "MailMerge$Sheet")) 0 := ⟨RX3, TX3, 2, tyX3, rfl, by decide, uin_X3, tyX3_ok, nmX3, rfl, fun h => absurd h (by decide), fun h => absurd h (by decide), jWs_of 296 (by decide +kernel) rfl⟩
theorem ki_X9_9 : jMi RX9 9 jJ4_init_da8c8 0 := ⟨jh_J4_init_da8c8, rfl, rfl, rfl, jWs_of 119 (by decide +kernel) rfl, jWs_of 120 (by decide +kernel) rfl⟩
theorem ki_X9_18 : jMi RX9 18 jX5_init 0 := ⟨jh_X5_init, rfl, rfl, rfl, jWs_of 152 (by decide +kernel) rfl, jWs_of 153 (by decide +kernel) rfl⟩
theorem ki_X9_32 : jMi RX9 32 jX3_init 0 := ⟨jh_X3_init, rfl, rfl, rfl, jWs_of 253 (by decide +kernel) rfl, jWs_of 254 (by decide +kernel) rfl⟩
theorem ki_X9_105 : jMi RX9 105 jX1_init 2 := ⟨jh_X1_init, rfl, rfl, rfl, jWs_of 647 (by decide +kernel) rfl, jWs_of 648 (by decide +kernel) rfl⟩
theorem ki_X9_198 : jMi RX9 198 jX7_init 1 := ⟨jh_X7_init, rfl, rfl, rfl, jWs_of 1053 (by decide +kernel) rfl, jWs_of 1054 (by decide +kernel) rfl⟩
theorem ki_X9_386 : jMi RX9 386 jX8_init 1 := ⟨jh_X8_init, rfl, rfl, rfl, jWs_of 964 (by decide +kernel) rfl, jWs_of 206 (by decide +kernel) rfl⟩
theorem ks_X9_65 : jMs RX9 65 jX9_byteAt 2 := ⟨jh_X9_byteAt, jWs_of 453 (by decide +kernel) rfl, jWs_of 454 (by decide +kernel) rfl⟩
theorem ks_X9_89 : jMs RX9 89 jX9_isGroup 1 := ⟨jh_X9_isGroup, jWs_of 629 (by decide +kernel) rfl, jWs_of 630 (by decide +kernel) rfl⟩
theorem ks_X9_93 : jMs RX9 93 jX9_isCountInRange 1 := ⟨jh_X9_isCountInRange, jWs_of 632 (by decide +kernel) rfl, jWs_of 633 (by decide +kernel) rfl⟩
theorem ks_X9_123 : jMs RX9 123 jJ9_abs_0f7a4 1 := ⟨jh_J9_abs_0f7a4, jWs_of 744 (by decide +kernel) rfl, jWs_of 745 (by decide +kernel) rfl⟩
theorem ks_X9_129 : jMs RX9 129 jX9_checkField 1 := ⟨jh_X9_checkField, jWs_of 754 (by decide +kernel) rfl, jWs_of 755 (by decide +kernel) rfl⟩
theorem ks_X9_185 : jMs RX9 185 jJ6_bitCount_0f7a4 1 := ⟨jh_J6_bitCount_0f7a4, jWs_of 1037 (by decide +kernel) rfl, jWs_of 1038 (by decide +kernel) rfl⟩
theorem ks_X9_380 : jMs RX9 380 jX9_wrongPlaceOfField 1 := ⟨jh_X9_wrongPlaceOfField, jWs_of 957 (by decide +kernel) rfl, jWs_of 958 (by decide +kernel) rfl⟩
theorem kv_X9_62 : jMv RX9 62 jX5_reset 0 := ⟨jh_X5_reset, rfl, jWs_of 341 (by decide +kernel) rfl, jWs_of 159 (by decide +kernel) rfl, jWs_of 160 (by decide +kernel) rfl⟩
theorem kv_X9_76 : jMv RX9 76 jJ4_length_8abf5 0 := ⟨jh_J4_length_8abf5, rfl, jWs_of 528 (by decide +kernel) rfl, jWs_of 529 (by decide +kernel) rfl, jWs_of 530 (by decide +kernel) rfl⟩
theorem kv_X9_85 : jMv RX9 85 jJ4_append_cf468 1 := ⟨jh_J4_append_cf468, rfl, jWs_of 551 (by decide +kernel) rfl, jWs_of 552 (by decide +kernel) rfl, jWs_of 553 (by decide +kernel) rfl⟩
theorem kv_X9_100 : jMv RX9 100 jX9_remember 0 := ⟨jh_X9_remember, rfl, jWs_of 637 (by decide +kernel) rfl, jWs_of 639 (by decide +kernel) rfl, jWs_of 1 (by decide +kernel) rfl⟩
theorem kv_X9_108 : jMv RX9 108 jX5_addLast 1 := ⟨jh_X5_addLast, rfl, jWs_of 675 (by decide +kernel) rfl, jWs_of 676 (by decide +kernel) rfl, jWs_of 677 (by decide +kernel) rfl⟩
theorem kv_X9_112 : jMv RX9 112 jX9_existing 1 := ⟨jh_X9_existing, rfl, jWs_of 710 (by decide +kernel) rfl, jWs_of 712 (by decide +kernel) rfl, jWs_of 3 (by decide +kernel) rfl⟩
theorem kv_X9_116 : jMv RX9 116 jX5_removeAt 1 := ⟨jh_X5_removeAt, rfl, jWs_of 728 (by decide +kernel) rfl, jWs_of 729 (by decide +kernel) rfl, jWs_of 730 (by decide +kernel) rfl⟩
theorem kv_X9_120 : jMv RX9 120 jX5_moveTo 2 := ⟨jh_X5_moveTo, rfl, jWs_of 743 (by decide +kernel) rfl, jWs_of 733 (by decide +kernel) rfl, jWs_of 734 (by decide +kernel) rfl⟩
theorem kv_X9_132 : jMv RX9 132 jX5_sortBy 3 := ⟨jh_X5_sortBy, rfl, jWs_of 758 (by decide +kernel) rfl, jWs_of 759 (by decide +kernel) rfl, jWs_of 760 (by decide +kernel) rfl⟩
theorem kv_X9_136 : jMv RX9 136 jX9_takeFieldText 0 := ⟨jh_X9_takeFieldText, rfl, jWs_of 782 (by decide +kernel) rfl, jWs_of 784 (by decide +kernel) rfl, jWs_of 4 (by decide +kernel) rfl⟩
theorem kv_X9_140 : jMv RX9 140 jX1_withText 2 := ⟨jh_X1_withText, rfl, jWs_of 965 (by decide +kernel) rfl, jWs_of 966 (by decide +kernel) rfl, jWs_of 967 (by decide +kernel) rfl⟩
theorem kv_X9_144 : jMv RX9 144 jX5_replace 2 := ⟨jh_X5_replace, rfl, jWs_of 970 (by decide +kernel) rfl, jWs_of 971 (by decide +kernel) rfl, jWs_of 972 (by decide +kernel) rfl⟩
theorem kv_X9_148 : jMv RX9 148 jX1_textAt 1 := ⟨jh_X1_textAt, rfl, jWs_of 974 (by decide +kernel) rfl, jWs_of 363 (by decide +kernel) rfl, jWs_of 364 (by decide +kernel) rfl⟩
theorem kv_X9_152 : jMv RX9 152 jX8_length 0 := ⟨jh_X8_length, rfl, jWs_of 975 (by decide +kernel) rfl, jWs_of 375 (by decide +kernel) rfl, jWs_of 376 (by decide +kernel) rfl⟩
theorem kv_X9_157 : jMv RX9 157 jX1_withCount 1 := ⟨jh_X1_withCount, rfl, jWs_of 984 (by decide +kernel) rfl, jWs_of 985 (by decide +kernel) rfl, jWs_of 986 (by decide +kernel) rfl⟩
theorem kv_X9_160 : jMv RX9 160 jX1_withGroup 1 := ⟨jh_X1_withGroup, rfl, jWs_of 988 (by decide +kernel) rfl, jWs_of 989 (by decide +kernel) rfl, jWs_of 990 (by decide +kernel) rfl⟩
theorem kv_X9_174 : jMv RX9 174 jX8_signAt 1 := ⟨jh_X8_signAt, rfl, jWs_of 1016 (by decide +kernel) rfl, jWs_of 1017 (by decide +kernel) rfl, jWs_of 1018 (by decide +kernel) rfl⟩
theorem kv_X9_178 : jMv RX9 178 jX1_filledFields 0 := ⟨jh_X1_filledFields, rfl, jWs_of 1027 (by decide +kernel) rfl, jWs_of 1028 (by decide +kernel) rfl, jWs_of 1029 (by decide +kernel) rfl⟩
theorem kv_X9_181 : jMv RX9 181 jX5_addressFields 1 := ⟨jh_X5_addressFields, rfl, jWs_of 1032 (by decide +kernel) rfl, jWs_of 1033 (by decide +kernel) rfl, jWs_of 1034 (by decide +kernel) rfl⟩
theorem kv_X9_194 : jMv RX9 194 jX9_takeBuffer 0 := ⟨jh_X9_takeBuffer, rfl, jWs_of 786 (by decide +kernel) rfl, jWs_of 788 (by decide +kernel) rfl, jWs_of 5 (by decide +kernel) rfl⟩
theorem kv_X9_199 : jMv RX9 199 jX7_readAll 0 := ⟨jh_X7_readAll, rfl, jWs_of 1081 (by decide +kernel) rfl, jWs_of 1082 (by decide +kernel) rfl, jWs_of 1083 (by decide +kernel) rfl⟩
theorem kv_X9_231 : jMv RX9 231 jX9_existingPiece 1 := ⟨jh_X9_existingPiece, rfl, jWs_of 1331 (by decide +kernel) rfl, jWs_of 1333 (by decide +kernel) rfl, jWs_of 20 (by decide +kernel) rfl⟩
theorem kv_X9_251 : jMv RX9 251 jX4_isMetBy 1 := ⟨jh_X4_isMetBy, rfl, jWs_of 1345 (by decide +kernel) rfl, jWs_of 1346 (by decide +kernel) rfl, jWs_of 1347 (by decide +kernel) rfl⟩
theorem kv_X9_255 : jMv RX9 255 jX2_pieceAt 1 := ⟨jh_X2_pieceAt, rfl, jWs_of 1335 (by decide +kernel) rfl, jWs_of 1300 (by decide +kernel) rfl, jWs_of 1301 (by decide +kernel) rfl⟩
theorem kv_X9_289 : jMv RX9 289 jX3_makeFrom 1 := ⟨jh_X3_makeFrom, rfl, jWs_of 1414 (by decide +kernel) rfl, jWs_of 1415 (by decide +kernel) rfl, jWs_of 1416 (by decide +kernel) rfl⟩
theorem kv_X9_293 : jMv RX9 293 jX3_howMany 1 := ⟨jh_X3_howMany, rfl, jWs_of 1470 (by decide +kernel) rfl, jWs_of 1471 (by decide +kernel) rfl, jWs_of 1472 (by decide +kernel) rfl⟩
theorem kv_X9_296 : jMv RX9 296 jX9_sheetOf 1 := ⟨jh_X9_sheetOf, rfl, jWs_of 1481 (by decide +kernel) rfl, jWs_of 1483 (by decide +kernel) rfl, jWs_of 29 (by decide +kernel) rfl⟩
theorem kv_X9_303 : jMv RX9 303 jX9_checkRun 0 := ⟨jh_X9_checkRun, rfl, jWs_of 1485 (by decide +kernel) rfl, jWs_of 1487 (by decide +kernel) rfl, jWs_of 30 (by decide +kernel) rfl⟩
theorem kv_X9_328 : jMv RX9 328 jX5_isExcluded 1 := ⟨jh_X5_isExcluded, rfl, jWs_of 1539 (by decide +kernel) rfl, jWs_of 355 (by decide +kernel) rfl, jWs_of 356 (by decide +kernel) rfl⟩
theorem kv_X9_333 : jMv RX9 333 jX5_keptOf 3 := ⟨jh_X5_keptOf, rfl, jWs_of 346 (by decide +kernel) rfl, jWs_of 347 (by decide +kernel) rfl, jWs_of 348 (by decide +kernel) rfl⟩
theorem kv_X9_337 : jMv RX9 337 jX6_write 2 := ⟨jh_X6_write, rfl, jWs_of 1548 (by decide +kernel) rfl, jWs_of 1427 (by decide +kernel) rfl, jWs_of 1428 (by decide +kernel) rfl⟩
theorem kv_X9_346 : jMv RX9 346 jX3_totalLength 0 := ⟨jh_X3_totalLength, rfl, jWs_of 1573 (by decide +kernel) rfl, jWs_of 1574 (by decide +kernel) rfl, jWs_of 1575 (by decide +kernel) rfl⟩
theorem kv_X9_352 : jMv RX9 352 jX5_copyFrom 1 := ⟨jh_X5_copyFrom, rfl, jWs_of 440 (by decide +kernel) rfl, jWs_of 441 (by decide +kernel) rfl, jWs_of 442 (by decide +kernel) rfl⟩
theorem kv_X9_359 : jMv RX9 359 jX5_entryAt 1 := ⟨jh_X5_entryAt, rfl, jWs_of 714 (by decide +kernel) rfl, jWs_of 351 (by decide +kernel) rfl, jWs_of 352 (by decide +kernel) rfl⟩
theorem kv_X9_374 : jMv RX9 374 jJ4_toString_0e30d 0 := ⟨jh_J4_toString_0e30d, rfl, jWs_of 790 (by decide +kernel) rfl, jWs_of 791 (by decide +kernel) rfl, jWs_of 792 (by decide +kernel) rfl⟩
theorem kv_X9_377 : jMv RX9 377 jJ4_setLength_d00df 1 := ⟨jh_J4_setLength_d00df, rfl, jWs_of 905 (by decide +kernel) rfl, jWs_of 906 (by decide +kernel) rfl, jWs_of 907 (by decide +kernel) rfl⟩
theorem kv_X9_387 : jMv RX9 387 jJ0_length_8abf5 0 := ⟨jh_J0_length_8abf5, rfl, jWs_of 960 (by decide +kernel) rfl, jWs_of 379 (by decide +kernel) rfl, jWs_of 380 (by decide +kernel) rfl⟩
theorem kv_X9_390 : jMv RX9 390 jJ0_charAt_5068e 1 := ⟨jh_J0_charAt_5068e, rfl, jWs_of 961 (by decide +kernel) rfl, jWs_of 393 (by decide +kernel) rfl, jWs_of 394 (by decide +kernel) rfl⟩
theorem kv_X9_393 : jMv RX9 393 jX9_forgetOldest 0 := ⟨jh_X9_forgetOldest, rfl, jWs_of 641 (by decide +kernel) rfl, jWs_of 643 (by decide +kernel) rfl, jWs_of 2 (by decide +kernel) rfl⟩
theorem kn_X9_7 : jNw RX9 7 1 [.null, .int 0, .int 0, .int 0] := ⟨RJ4, TJ4, 4, tyJ4, rfl, uin_J4, tyJ4_ok, rfl, by decide +kernel, jWs_of 117 (by decide +kernel) rfl, jWs_of 118 (by decide +kernel) rfl, jWs_of 76 (by decide +kernel) rfl⟩
theorem kn_X9_16 : jNw RX9 16 9 [.null, .int 0, .null, .null, .int 0, .int 0, .int 0, .int 0] := ⟨RX5, TX5, 8, tyX5, rfl, uin_X5, tyX5_ok, rfl, by decide +kernel, jWs_of 150 (by decide +kernel) rfl, jWs_of 151 (by decide +kernel) rfl, jWs_of 79 (by decide +kernel) rfl⟩
theorem kn_X9_30 : jNw RX9 30 7 [.null, .int 0] := ⟨RX3, TX3, 2, tyX3, rfl, uin_X3, tyX3_ok, rfl, by decide +kernel, jWs_of 251 (by decide +kernel) rfl, jWs_of 252 (by decide +kernel) rfl, jWs_of 83 (by decide +kernel) rfl⟩
theorem kn_X9_37 : jNw RX9 37 10 [.null, .null, .int 0, .int 0, .int 0, .int 0, .int 0] := ⟨RX6, TX6, 7, tyX6, rfl, uin_X6, tyX6_ok, rfl, by decide +kernel, jWs_of 304 (by decide +kernel) rfl, jWs_of 259 (by decide +kernel) rfl, jWs_of 84 (by decide +kernel) rfl⟩
theorem kn_X9_103 : jNw RX9 103 5 [.int 0, .int 0, .null] := ⟨RX1, TX1, 3, tyX1, rfl, uin_X1, tyX1_ok, rfl, by decide +kernel, jWs_of 645 (by decide +kernel) rfl, jWs_of 646 (by decide +kernel) rfl, jWs_of 96 (by decide +kernel) rfl⟩
theorem kn_X9_153 : jNw RX9 153 12 [.null] := ⟨RX8, TX8, 1, tyX8, rfl, uin_X8, tyX8_ok, rfl, by decide +kernel, jWs_of 963 (by decide +kernel) rfl, jWs_of 203 (by decide +kernel) rfl, jWs_of 82 (by decide +kernel) rfl⟩
theorem kn_X9_192 : jNw RX9 192 11 [.null, .int 0, .null, .null, .int 0, .int 0] := ⟨RX7, TX7, 6, tyX7, rfl, uin_X7, tyX7_ok, rfl, by decide +kernel, jWs_of 1051 (by decide +kernel) rfl, jWs_of 1052 (by decide +kernel) rfl, jWs_of 103 (by decide +kernel) rfl⟩
theorem kp_X9_10 : jFl RX9 10 13 0 (.object "java/lang/StringBuilder") 2 := ⟨RX9, TX9, 10, tyX9, rfl, by decide, uin_X9, tyX9_ok, nmX9, rfl, fun h => absurd h (by decide), fun _ => ⟨rfl, rfl⟩, jWs_of 306 (by decide +kernel) rfl⟩
theorem kp_X9_19 : jFl RX9 19 13 1 (.object "MailMerge$Setup") 2 := ⟨RX9, TX9, 10, tyX9, rfl, by decide, uin_X9, tyX9_ok, nmX9, rfl, fun h => absurd h (by decide), fun _ => ⟨rfl, rfl⟩, jWs_of 307 (by decide +kernel) rfl⟩
theorem kp_X9_23 : jFl RX9 23 13 2 (.object "MailMerge$Setup") 2 := ⟨RX9, TX9, 10, tyX9, rfl, by decide, uin_X9, tyX9_ok, nmX9, rfl, fun h => absurd h (by decide), fun _ => ⟨rfl, rfl⟩, jWs_of 308 (by decide +kernel) rfl⟩
theorem kp_X9_26 : jFl RX9 26 13 3 (.array (.object "MailMerge$Setup")) 2 := ⟨RX9, TX9, 10, tyX9, rfl, by decide, uin_X9, tyX9_ok, nmX9, rfl, fun h => absurd h (by decide), fun _ => ⟨rfl, rfl⟩, jWs_of 309 (by decide +kernel) rfl⟩
theorem kp_X9_33 : jFl RX9 33 13 4 (.object "MailMerge$Outcome") 2 := ⟨RX9, TX9, 10, tyX9, rfl, by decide, uin_X9, tyX9_ok, nmX9, rfl, fun h => absurd h (by decide), fun _ => ⟨rfl, rfl⟩, jWs_of 310 (by decide +kernel) rfl⟩
theorem kp_X9_40 : jFl RX9 40 13 5 (.object "MailMerge$Sheet") 2 := ⟨RX9, TX9, 10, tyX9, rfl, by decide, uin_X9, tyX9_ok, nmX9, rfl, fun h => absurd h (by decide), fun _ => ⟨rfl, rfl⟩, jWs_of 311 (by decide +kernel) rfl⟩
theorem kp_X9_44 : jFl RX9 44 13 6 (.array .int) 2 := ⟨RX9, TX9, 10, tyX9, rfl, by decide, uin_X9, tyX9_ok, nmX9, rfl, fun h => absurd h (by decide), fun _ => ⟨rfl, rfl⟩, jWs_of 312 (by decide +kernel) rfl⟩
theorem kp_X9_48 : jFl RX9 48 13 7 (.int) 1 := ⟨RX9, TX9, 10, tyX9, rfl, by decide, uin_X9, tyX9_ok, nmX9, rfl, fun _ => rfl, fun h => absurd h (by decide), jWs_of 313 (by decide +kernel) rfl⟩
theorem kp_X9_52 : jFl RX9 52 13 8 (.int) 1 := ⟨RX9, TX9, 10, tyX9, rfl, by decide, uin_X9, tyX9_ok, nmX9, rfl, fun _ => rfl, fun h => absurd h (by decide), jWs_of 314 (by decide +kernel) rfl⟩
theorem kp_X9_55 : jFl RX9 55 13 9 (.boolean) 1 := ⟨RX9, TX9, 10, tyX9, rfl, by decide, uin_X9, tyX9_ok, nmX9, rfl, fun _ => rfl, fun h => absurd h (by decide), jWs_of 315 (by decide +kernel) rfl⟩
theorem kp_X9_212 : jFl RX9 212 9 2 (.object "MailMerge$Layout") 1 := ⟨RX5, TX5, 8, tyX5, rfl, by decide, uin_X5, tyX5_ok, nmX5, rfl, fun _ => rfl, fun h => absurd h (by decide), jWs_of 220 (by decide +kernel) rfl⟩
theorem kp_X9_258 : jFl RX9 258 9 3 (.object "MailMerge$Text") 1 := ⟨RX5, TX5, 8, tyX5, rfl, by decide, uin_X5, tyX5_ok, nmX5, rfl, fun _ => rfl, fun h => absurd h (by decide), jWs_of 222 (by decide +kernel) rfl⟩
theorem kp_X9_264 : jFl RX9 264 9 4 (.int) 1 := ⟨RX5, TX5, 8, tyX5, rfl, by decide, uin_X5, tyX5_ok, nmX5, rfl, fun _ => rfl, fun h => absurd h (by decide), jWs_of 224 (by decide +kernel) rfl⟩
theorem kp_X9_269 : jFl RX9 269 9 5 (.int) 1 := ⟨RX5, TX5, 8, tyX5, rfl, by decide, uin_X5, tyX5_ok, nmX5, rfl, fun _ => rfl, fun h => absurd h (by decide), jWs_of 227 (by decide +kernel) rfl⟩
theorem kp_X9_277 : jFl RX9 277 9 6 (.int) 1 := ⟨RX5, TX5, 8, tyX5, rfl, by decide, uin_X5, tyX5_ok, nmX5, rfl, fun _ => rfl, fun h => absurd h (by decide), jWs_of 229 (by decide +kernel) rfl⟩
theorem kp_X9_282 : jFl RX9 282 9 7 (.int) 1 := ⟨RX5, TX5, 8, tyX5, rfl, by decide, uin_X5, tyX5_ok, nmX5, rfl, fun _ => rfl, fun h => absurd h (by decide), jWs_of 232 (by decide +kernel) rfl⟩
theorem ko_X9_1 : Cond.methodLink RX9 1 objectInit ∈ jWs := jWs_of 114 (by decide +kernel) rfl
theorem ko_J5_3 : Cond.methodLink RJ5 3 objectInit ∈ jWs := jWs_of 125 (by decide +kernel) rfl
theorem ko_X5_3 : Cond.methodLink RX5 3 objectInit ∈ jWs := jWs_of 155 (by decide +kernel) rfl
theorem ko_X2_1 : Cond.methodLink RX2 1 objectInit ∈ jWs := jWs_of 167 (by decide +kernel) rfl
theorem ko_X8_1 : Cond.methodLink RX8 1 objectInit ∈ jWs := jWs_of 208 (by decide +kernel) rfl
theorem ko_X3_3 : Cond.methodLink RX3 3 objectInit ∈ jWs := jWs_of 256 (by decide +kernel) rfl
theorem ko_X6_3 : Cond.methodLink RX6 3 objectInit ∈ jWs := jWs_of 263 (by decide +kernel) rfl
theorem ko_X1_20 : Cond.methodLink RX1 20 objectInit ∈ jWs := jWs_of 655 (by decide +kernel) rfl
theorem ko_J0_1 : Cond.methodLink RJ0 1 objectInit ∈ jWs := jWs_of 801 (by decide +kernel) rfl
theorem ko_X7_3 : Cond.methodLink RX7 3 objectInit ∈ jWs := jWs_of 1056 (by decide +kernel) rfl
theorem ko_X4_1 : Cond.methodLink RX4 1 objectInit ∈ jWs := jWs_of 1099 (by decide +kernel) rfl
theorem ko_X0_1 : Cond.methodLink RX0 1 objectInit ∈ jWs := jWs_of 1271 (by decide +kernel) rfl
theorem ko_X10_1 : Cond.methodLink RX10 1 objectInit ∈ jWs := jWs_of 1605 (by decide +kernel) rfl
theorem ko_i : Cond.instanceMethod objectInit ∈ jWs := jWs_of 115 (by decide +kernel) rfl
theorem ko_c : Cond.code objectInit ⟨#[0xb1]⟩ 1 none ∈ jWs := jWs_of 116 (by decide +kernel) rfl
theorem kr_byte : Cond.arrayClass .byte ∈ jWs := jWs_of 149 (by decide +kernel) rfl
theorem kr_char : Cond.arrayClass .char ∈ jWs := jWs_of 293 (by decide +kernel) rfl
theorem kr_int : Cond.arrayClass .int ∈ jWs := jWs_of 294 (by decide +kernel) rfl
theorem kr_boolean : Cond.arrayClass .boolean ∈ jWs := jWs_of 1715 (by decide +kernel) rfl
theorem kr_long : Cond.arrayClass .long ∈ jWs := jWs_of 2036 (by decide +kernel) rfl
theorem kr_double : Cond.arrayClass .double ∈ jWs := jWs_of 2037 (by decide +kernel) rfl
theorem kc_L_8 : Cond.classLink RL 8 "MailMerge" ∈ jWs := jWs_of 109 (by decide +kernel) rfl
theorem kc_L_13 : Cond.classLink RL 13 "java/lang/IllegalArgumentException" ∈ jWs := jWs_of 447 (by decide +kernel) rfl
theorem kc_L_15 : Cond.classLink RL 15 "java/lang/IllegalStateException" ∈ jWs := jWs_of 448 (by decide +kernel) rfl
theorem kc_L_24 : Cond.classLink RL 24 "java/lang/IndexOutOfBoundsException" ∈ jWs := jWs_of 682 (by decide +kernel) rfl
theorem kc_L_44 : Cond.classLink RL 44 "java/util/NoSuchElementException" ∈ jWs := jWs_of 995 (by decide +kernel) rfl
theorem kc_L_97 : Cond.classLink RL 97 "java/lang/UnsupportedOperationException" ∈ jWs := jWs_of 1502 (by decide +kernel) rfl
theorem kc_L_112 : Cond.classLink RL 112 "java/lang/ArithmeticException" ∈ jWs := jWs_of 1552 (by decide +kernel) rfl
theorem kc_L_125 : Cond.classLink RL 125 "MailMergeModel" ∈ jWs := jWs_of 1600 (by decide +kernel) rfl
