/-! what the bytes of the law say: the law's helpers -/
theorem dL_cell_0 : decode cL_cell 0 = .ok (.iload_n 1, 1) := by decide +kernel
theorem dL_cell_1 : decode cL_cell 1 = .ok (.aload_n 0, 1) := by decide +kernel
theorem dL_cell_2 : decode cL_cell 2 = .ok (.arraylength, 1) := by decide +kernel
theorem dL_cell_3 : decode cL_cell 3 = .ok (.if_icmp .ge 9, 3) := by decide +kernel
theorem dL_cell_6 : decode cL_cell 6 = .ok (.aload_n 0, 1) := by decide +kernel
theorem dL_cell_7 : decode cL_cell 7 = .ok (.iload_n 1, 1) := by decide +kernel
theorem dL_cell_8 : decode cL_cell 8 = .ok (.iaload, 1) := by decide +kernel
theorem dL_cell_9 : decode cL_cell 9 = .ok (.goto 7, 3) := by decide +kernel
theorem dL_cell_12 : decode cL_cell 12 = .ok (.ldc 7, 2) := by decide +kernel
theorem dL_cell_14 : decode cL_cell 14 = .ok (.iload_n 1, 1) := by decide +kernel
theorem dL_cell_15 : decode cL_cell 15 = .ok (.imul, 1) := by decide +kernel
theorem dL_cell_16 : decode cL_cell 16 = .ok (.ireturn, 1) := by decide +kernel
theorem dL_pick_0 : decode cL_pick 0 = .ok (.aload_n 0, 1) := by decide +kernel
theorem dL_pick_1 : decode cL_pick 1 = .ok (.iload_n 1, 1) := by decide +kernel
theorem dL_pick_2 : decode cL_pick 2 = .ok (.invokestatic 8, 3) := by decide +kernel
theorem dL_pick_5 : decode cL_pick 5 = .ok (.iconst 1, 1) := by decide +kernel
theorem dL_pick_6 : decode cL_pick 6 = .ok (.iushr, 1) := by decide +kernel
theorem dL_pick_7 : decode cL_pick 7 = .ok (.iload_n 2, 1) := by decide +kernel
theorem dL_pick_8 : decode cL_pick 8 = .ok (.irem, 1) := by decide +kernel
theorem dL_pick_9 : decode cL_pick 9 = .ok (.ireturn, 1) := by decide +kernel
theorem dL_addPart_0 : decode cL_addPart 0 = .ok (.aload_n 0, 1) := by decide +kernel
theorem dL_addPart_1 : decode cL_addPart 1 = .ok (.iload_n 1, 1) := by decide +kernel
theorem dL_addPart_2 : decode cL_addPart 2 = .ok (.iload_n 2, 1) := by decide +kernel
theorem dL_addPart_3 : decode cL_addPart 3 = .ok (.iload_n 3, 1) := by decide +kernel
theorem dL_addPart_4 : decode cL_addPart 4 = .ok (.invokevirtual 14, 3) := by decide +kernel
theorem dL_addPart_7 : decode cL_addPart 7 = .ok (.ireturn, 1) := by decide +kernel
theorem dL_addPart_8 : decode cL_addPart 8 = .ok (.astore 4, 2) := by decide +kernel
theorem dL_addPart_10 : decode cL_addPart 10 = .ok (.bipush (-78), 2) := by decide +kernel
theorem dL_addPart_12 : decode cL_addPart 12 = .ok (.ireturn, 1) := by decide +kernel
theorem dL_addPart_13 : decode cL_addPart 13 = .ok (.astore 4, 2) := by decide +kernel
theorem dL_addPart_15 : decode cL_addPart 15 = .ok (.bipush (-79), 2) := by decide +kernel
theorem dL_addPart_17 : decode cL_addPart 17 = .ok (.ireturn, 1) := by decide +kernel
theorem dL_setPrice_0 : decode cL_setPrice 0 = .ok (.aload_n 0, 1) := by decide +kernel
theorem dL_setPrice_1 : decode cL_setPrice 1 = .ok (.iload_n 1, 1) := by decide +kernel
theorem dL_setPrice_2 : decode cL_setPrice 2 = .ok (.iload_n 2, 1) := by decide +kernel
theorem dL_setPrice_3 : decode cL_setPrice 3 = .ok (.invokevirtual 24, 3) := by decide +kernel
theorem dL_setPrice_6 : decode cL_setPrice 6 = .ok (.ireturn, 1) := by decide +kernel
theorem dL_setPrice_7 : decode cL_setPrice 7 = .ok (.astore_n 3, 1) := by decide +kernel
theorem dL_setPrice_8 : decode cL_setPrice 8 = .ok (.bipush (-77), 2) := by decide +kernel
theorem dL_setPrice_10 : decode cL_setPrice 10 = .ok (.ireturn, 1) := by decide +kernel
theorem dL_setPrice_11 : decode cL_setPrice 11 = .ok (.astore_n 3, 1) := by decide +kernel
theorem dL_setPrice_12 : decode cL_setPrice 12 = .ok (.bipush (-78), 2) := by decide +kernel
theorem dL_setPrice_14 : decode cL_setPrice 14 = .ok (.ireturn, 1) := by decide +kernel
theorem dL_kind_0 : decode cL_kind 0 = .ok (.aload_n 0, 1) := by decide +kernel
theorem dL_kind_1 : decode cL_kind 1 = .ok (.iload_n 1, 1) := by decide +kernel
theorem dL_kind_2 : decode cL_kind 2 = .ok (.invokevirtual 30, 3) := by decide +kernel
theorem dL_kind_5 : decode cL_kind 5 = .ok (.ireturn, 1) := by decide +kernel
theorem dL_kind_6 : decode cL_kind 6 = .ok (.astore_n 2, 1) := by decide +kernel
theorem dL_kind_7 : decode cL_kind 7 = .ok (.bipush (-77), 2) := by decide +kernel
theorem dL_kind_9 : decode cL_kind 9 = .ok (.ireturn, 1) := by decide +kernel
theorem dL_addLine_0 : decode cL_addLine 0 = .ok (.aload_n 0, 1) := by decide +kernel
theorem dL_addLine_1 : decode cL_addLine 1 = .ok (.iload_n 1, 1) := by decide +kernel
theorem dL_addLine_2 : decode cL_addLine 2 = .ok (.iload_n 2, 1) := by decide +kernel
theorem dL_addLine_3 : decode cL_addLine 3 = .ok (.iload_n 3, 1) := by decide +kernel
theorem dL_addLine_4 : decode cL_addLine 4 = .ok (.iload 4, 2) := by decide +kernel
theorem dL_addLine_6 : decode cL_addLine 6 = .ok (.iload 5, 2) := by decide +kernel
theorem dL_addLine_8 : decode cL_addLine 8 = .ok (.iload 6, 2) := by decide +kernel
theorem dL_addLine_10 : decode cL_addLine 10 = .ok (.invokevirtual 34, 3) := by decide +kernel
theorem dL_addLine_13 : decode cL_addLine 13 = .ok (.ireturn, 1) := by decide +kernel
theorem dL_addLine_14 : decode cL_addLine 14 = .ok (.astore 7, 2) := by decide +kernel
theorem dL_addLine_16 : decode cL_addLine 16 = .ok (.bipush (-77), 2) := by decide +kernel
theorem dL_addLine_18 : decode cL_addLine 18 = .ok (.ireturn, 1) := by decide +kernel
theorem dL_addLine_19 : decode cL_addLine 19 = .ok (.astore 7, 2) := by decide +kernel
theorem dL_addLine_21 : decode cL_addLine 21 = .ok (.bipush (-78), 2) := by decide +kernel
theorem dL_addLine_23 : decode cL_addLine 23 = .ok (.ireturn, 1) := by decide +kernel
theorem dL_addLine_24 : decode cL_addLine 24 = .ok (.astore 7, 2) := by decide +kernel
theorem dL_addLine_26 : decode cL_addLine 26 = .ok (.bipush (-76), 2) := by decide +kernel
theorem dL_addLine_28 : decode cL_addLine 28 = .ok (.ireturn, 1) := by decide +kernel
theorem dL_addLine_29 : decode cL_addLine 29 = .ok (.astore 7, 2) := by decide +kernel
theorem dL_addLine_31 : decode cL_addLine 31 = .ok (.bipush (-79), 2) := by decide +kernel
theorem dL_addLine_33 : decode cL_addLine 33 = .ok (.ireturn, 1) := by decide +kernel
theorem dL_addVariant_0 : decode cL_addVariant 0 = .ok (.aload_n 0, 1) := by decide +kernel
theorem dL_addVariant_1 : decode cL_addVariant 1 = .ok (.iload_n 1, 1) := by decide +kernel
theorem dL_addVariant_2 : decode cL_addVariant 2 = .ok (.iload_n 2, 1) := by decide +kernel
theorem dL_addVariant_3 : decode cL_addVariant 3 = .ok (.iload_n 3, 1) := by decide +kernel
theorem dL_addVariant_4 : decode cL_addVariant 4 = .ok (.iload 4, 2) := by decide +kernel
theorem dL_addVariant_6 : decode cL_addVariant 6 = .ok (.iload 5, 2) := by decide +kernel
theorem dL_addVariant_8 : decode cL_addVariant 8 = .ok (.iload 6, 2) := by decide +kernel
theorem dL_addVariant_10 : decode cL_addVariant 10 = .ok (.invokevirtual 40, 3) := by decide +kernel
theorem dL_addVariant_13 : decode cL_addVariant 13 = .ok (.ireturn, 1) := by decide +kernel
theorem dL_addVariant_14 : decode cL_addVariant 14 = .ok (.astore 7, 2) := by decide +kernel
theorem dL_addVariant_16 : decode cL_addVariant 16 = .ok (.bipush (-77), 2) := by decide +kernel
theorem dL_addVariant_18 : decode cL_addVariant 18 = .ok (.ireturn, 1) := by decide +kernel
theorem dL_addVariant_19 : decode cL_addVariant 19 = .ok (.astore 7, 2) := by decide +kernel
theorem dL_addVariant_21 : decode cL_addVariant 21 = .ok (.bipush (-78), 2) := by decide +kernel
theorem dL_addVariant_23 : decode cL_addVariant 23 = .ok (.ireturn, 1) := by decide +kernel
theorem dL_addVariant_24 : decode cL_addVariant 24 = .ok (.astore 7, 2) := by decide +kernel
theorem dL_addVariant_26 : decode cL_addVariant 26 = .ok (.bipush (-76), 2) := by decide +kernel
theorem dL_addVariant_28 : decode cL_addVariant 28 = .ok (.ireturn, 1) := by decide +kernel
theorem dL_addVariant_29 : decode cL_addVariant 29 = .ok (.astore 7, 2) := by decide +kernel
theorem dL_addVariant_31 : decode cL_addVariant 31 = .ok (.bipush (-79), 2) := by decide +kernel
theorem dL_addVariant_33 : decode cL_addVariant 33 = .ok (.ireturn, 1) := by decide +kernel
theorem dL_replaceFrom_0 : decode cL_replaceFrom 0 = .ok (.aload_n 0, 1) := by decide +kernel
theorem dL_replaceFrom_1 : decode cL_replaceFrom 1 = .ok (.iload_n 1, 1) := by decide +kernel
theorem dL_replaceFrom_2 : decode cL_replaceFrom 2 = .ok (.iload_n 2, 1) := by decide +kernel
theorem dL_replaceFrom_3 : decode cL_replaceFrom 3 = .ok (.iload_n 3, 1) := by decide +kernel
theorem dL_replaceFrom_4 : decode cL_replaceFrom 4 = .ok (.iload 4, 2) := by decide +kernel
theorem dL_replaceFrom_6 : decode cL_replaceFrom 6 = .ok (.invokevirtual 43, 3) := by decide +kernel
theorem dL_replaceFrom_9 : decode cL_replaceFrom 9 = .ok (.ireturn, 1) := by decide +kernel
theorem dL_replaceFrom_10 : decode cL_replaceFrom 10 = .ok (.astore 5, 2) := by decide +kernel
theorem dL_replaceFrom_12 : decode cL_replaceFrom 12 = .ok (.bipush (-77), 2) := by decide +kernel
theorem dL_replaceFrom_14 : decode cL_replaceFrom 14 = .ok (.ireturn, 1) := by decide +kernel
theorem dL_replaceFrom_15 : decode cL_replaceFrom 15 = .ok (.astore 5, 2) := by decide +kernel
theorem dL_replaceFrom_17 : decode cL_replaceFrom 17 = .ok (.bipush (-78), 2) := by decide +kernel
theorem dL_replaceFrom_19 : decode cL_replaceFrom 19 = .ok (.ireturn, 1) := by decide +kernel
theorem dL_replaceFrom_20 : decode cL_replaceFrom 20 = .ok (.astore 5, 2) := by decide +kernel
theorem dL_replaceFrom_22 : decode cL_replaceFrom 22 = .ok (.bipush (-76), 2) := by decide +kernel
theorem dL_replaceFrom_24 : decode cL_replaceFrom 24 = .ok (.ireturn, 1) := by decide +kernel
theorem dL_replaceFrom_25 : decode cL_replaceFrom 25 = .ok (.astore 5, 2) := by decide +kernel
theorem dL_replaceFrom_27 : decode cL_replaceFrom 27 = .ok (.bipush (-79), 2) := by decide +kernel
theorem dL_replaceFrom_29 : decode cL_replaceFrom 29 = .ok (.ireturn, 1) := by decide +kernel
theorem dL_endBefore_0 : decode cL_endBefore 0 = .ok (.aload_n 0, 1) := by decide +kernel
theorem dL_endBefore_1 : decode cL_endBefore 1 = .ok (.iload_n 1, 1) := by decide +kernel
theorem dL_endBefore_2 : decode cL_endBefore 2 = .ok (.iload_n 2, 1) := by decide +kernel
theorem dL_endBefore_3 : decode cL_endBefore 3 = .ok (.invokevirtual 47, 3) := by decide +kernel
theorem dL_endBefore_6 : decode cL_endBefore 6 = .ok (.ireturn, 1) := by decide +kernel
theorem dL_endBefore_7 : decode cL_endBefore 7 = .ok (.astore_n 3, 1) := by decide +kernel
theorem dL_endBefore_8 : decode cL_endBefore 8 = .ok (.bipush (-77), 2) := by decide +kernel
theorem dL_endBefore_10 : decode cL_endBefore 10 = .ok (.ireturn, 1) := by decide +kernel
theorem dL_endBefore_11 : decode cL_endBefore 11 = .ok (.astore_n 3, 1) := by decide +kernel
theorem dL_endBefore_12 : decode cL_endBefore 12 = .ok (.bipush (-78), 2) := by decide +kernel
theorem dL_endBefore_14 : decode cL_endBefore 14 = .ok (.ireturn, 1) := by decide +kernel
theorem dL_setScrap_0 : decode cL_setScrap 0 = .ok (.aload_n 0, 1) := by decide +kernel
theorem dL_setScrap_1 : decode cL_setScrap 1 = .ok (.iload_n 1, 1) := by decide +kernel
theorem dL_setScrap_2 : decode cL_setScrap 2 = .ok (.iload_n 2, 1) := by decide +kernel
theorem dL_setScrap_3 : decode cL_setScrap 3 = .ok (.invokevirtual 50, 3) := by decide +kernel
theorem dL_setScrap_6 : decode cL_setScrap 6 = .ok (.ireturn, 1) := by decide +kernel
theorem dL_setScrap_7 : decode cL_setScrap 7 = .ok (.astore_n 3, 1) := by decide +kernel
theorem dL_setScrap_8 : decode cL_setScrap 8 = .ok (.bipush (-77), 2) := by decide +kernel
theorem dL_setScrap_10 : decode cL_setScrap 10 = .ok (.ireturn, 1) := by decide +kernel
theorem dL_setScrap_11 : decode cL_setScrap 11 = .ok (.astore_n 3, 1) := by decide +kernel
theorem dL_setScrap_12 : decode cL_setScrap 12 = .ok (.bipush (-78), 2) := by decide +kernel
theorem dL_setScrap_14 : decode cL_setScrap 14 = .ok (.ireturn, 1) := by decide +kernel
theorem dL_lastSerial_0 : decode cL_lastSerial 0 = .ok (.aload_n 0, 1) := by decide +kernel
theorem dL_lastSerial_1 : decode cL_lastSerial 1 = .ok (.iload_n 1, 1) := by decide +kernel
theorem dL_lastSerial_2 : decode cL_lastSerial 2 = .ok (.invokevirtual 53, 3) := by decide +kernel
theorem dL_lastSerial_5 : decode cL_lastSerial 5 = .ok (.ireturn, 1) := by decide +kernel
theorem dL_lastSerial_6 : decode cL_lastSerial 6 = .ok (.astore_n 2, 1) := by decide +kernel
theorem dL_lastSerial_7 : decode cL_lastSerial 7 = .ok (.bipush (-77), 2) := by decide +kernel
theorem dL_lastSerial_9 : decode cL_lastSerial 9 = .ok (.ireturn, 1) := by decide +kernel
theorem dL_holds_0 : decode cL_holds 0 = .ok (.aload_n 0, 1) := by decide +kernel
theorem dL_holds_1 : decode cL_holds 1 = .ok (.iload_n 1, 1) := by decide +kernel
theorem dL_holds_2 : decode cL_holds 2 = .ok (.iload_n 2, 1) := by decide +kernel
theorem dL_holds_3 : decode cL_holds 3 = .ok (.invokevirtual 57, 3) := by decide +kernel
theorem dL_holds_6 : decode cL_holds 6 = .ok (.ifCond .eq 7, 3) := by decide +kernel
theorem dL_holds_9 : decode cL_holds 9 = .ok (.iconst 1, 1) := by decide +kernel
theorem dL_holds_10 : decode cL_holds 10 = .ok (.goto 4, 3) := by decide +kernel
theorem dL_holds_13 : decode cL_holds 13 = .ok (.iconst 0, 1) := by decide +kernel
theorem dL_holds_14 : decode cL_holds 14 = .ok (.ireturn, 1) := by decide +kernel
theorem dL_holds_15 : decode cL_holds 15 = .ok (.astore_n 3, 1) := by decide +kernel
theorem dL_holds_16 : decode cL_holds 16 = .ok (.bipush (-77), 2) := by decide +kernel
theorem dL_holds_18 : decode cL_holds 18 = .ok (.ireturn, 1) := by decide +kernel
theorem dL_holds_19 : decode cL_holds 19 = .ok (.astore_n 3, 1) := by decide +kernel
theorem dL_holds_20 : decode cL_holds 20 = .ok (.bipush (-78), 2) := by decide +kernel
theorem dL_holds_22 : decode cL_holds 22 = .ok (.ireturn, 1) := by decide +kernel
theorem dL_setChoice_0 : decode cL_setChoice 0 = .ok (.aload_n 0, 1) := by decide +kernel
theorem dL_setChoice_1 : decode cL_setChoice 1 = .ok (.iload_n 1, 1) := by decide +kernel
theorem dL_setChoice_2 : decode cL_setChoice 2 = .ok (.iload_n 2, 1) := by decide +kernel
theorem dL_setChoice_3 : decode cL_setChoice 3 = .ok (.invokevirtual 61, 3) := by decide +kernel
theorem dL_setChoice_6 : decode cL_setChoice 6 = .ok (.ireturn, 1) := by decide +kernel
theorem dL_setChoice_7 : decode cL_setChoice 7 = .ok (.astore_n 3, 1) := by decide +kernel
theorem dL_setChoice_8 : decode cL_setChoice 8 = .ok (.bipush (-77), 2) := by decide +kernel
theorem dL_setChoice_10 : decode cL_setChoice 10 = .ok (.ireturn, 1) := by decide +kernel
theorem dL_setChoice_11 : decode cL_setChoice 11 = .ok (.astore_n 3, 1) := by decide +kernel
theorem dL_setChoice_12 : decode cL_setChoice 12 = .ok (.bipush (-78), 2) := by decide +kernel
theorem dL_setChoice_14 : decode cL_setChoice 14 = .ok (.ireturn, 1) := by decide +kernel
theorem dL_choice_0 : decode cL_choice 0 = .ok (.aload_n 0, 1) := by decide +kernel
theorem dL_choice_1 : decode cL_choice 1 = .ok (.iload_n 1, 1) := by decide +kernel
theorem dL_choice_2 : decode cL_choice 2 = .ok (.invokevirtual 64, 3) := by decide +kernel
theorem dL_choice_5 : decode cL_choice 5 = .ok (.ireturn, 1) := by decide +kernel
theorem dL_choice_6 : decode cL_choice 6 = .ok (.astore_n 2, 1) := by decide +kernel
theorem dL_choice_7 : decode cL_choice 7 = .ok (.bipush (-77), 2) := by decide +kernel
theorem dL_choice_9 : decode cL_choice 9 = .ok (.ireturn, 1) := by decide +kernel
theorem dL_listSize_0 : decode cL_listSize 0 = .ok (.aload_n 0, 1) := by decide +kernel
theorem dL_listSize_1 : decode cL_listSize 1 = .ok (.iload_n 1, 1) := by decide +kernel
theorem dL_listSize_2 : decode cL_listSize 2 = .ok (.iload_n 2, 1) := by decide +kernel
theorem dL_listSize_3 : decode cL_listSize 3 = .ok (.invokevirtual 67, 3) := by decide +kernel
theorem dL_listSize_6 : decode cL_listSize 6 = .ok (.ireturn, 1) := by decide +kernel
theorem dL_listSize_7 : decode cL_listSize 7 = .ok (.astore_n 3, 1) := by decide +kernel
theorem dL_listSize_8 : decode cL_listSize 8 = .ok (.bipush (-77), 2) := by decide +kernel
theorem dL_listSize_10 : decode cL_listSize 10 = .ok (.ireturn, 1) := by decide +kernel
theorem dL_listSize_11 : decode cL_listSize 11 = .ok (.astore_n 3, 1) := by decide +kernel
theorem dL_listSize_12 : decode cL_listSize 12 = .ok (.bipush (-78), 2) := by decide +kernel
theorem dL_listSize_14 : decode cL_listSize 14 = .ok (.ireturn, 1) := by decide +kernel
theorem dL_listPart_0 : decode cL_listPart 0 = .ok (.aload_n 0, 1) := by decide +kernel
theorem dL_listPart_1 : decode cL_listPart 1 = .ok (.iload_n 1, 1) := by decide +kernel
theorem dL_listPart_2 : decode cL_listPart 2 = .ok (.iload_n 2, 1) := by decide +kernel
theorem dL_listPart_3 : decode cL_listPart 3 = .ok (.iload_n 3, 1) := by decide +kernel
theorem dL_listPart_4 : decode cL_listPart 4 = .ok (.invokevirtual 70, 3) := by decide +kernel
theorem dL_listPart_7 : decode cL_listPart 7 = .ok (.ireturn, 1) := by decide +kernel
theorem dL_listPart_8 : decode cL_listPart 8 = .ok (.astore 4, 2) := by decide +kernel
theorem dL_listPart_10 : decode cL_listPart 10 = .ok (.bipush (-77), 2) := by decide +kernel
theorem dL_listPart_12 : decode cL_listPart 12 = .ok (.ireturn, 1) := by decide +kernel
theorem dL_listPart_13 : decode cL_listPart 13 = .ok (.astore 4, 2) := by decide +kernel
theorem dL_listPart_15 : decode cL_listPart 15 = .ok (.bipush (-78), 2) := by decide +kernel
theorem dL_listPart_17 : decode cL_listPart 17 = .ok (.ireturn, 1) := by decide +kernel
theorem dL_listPart_18 : decode cL_listPart 18 = .ok (.astore 4, 2) := by decide +kernel
theorem dL_listPart_20 : decode cL_listPart 20 = .ok (.bipush (-75), 2) := by decide +kernel
theorem dL_listPart_22 : decode cL_listPart 22 = .ok (.ireturn, 1) := by decide +kernel
theorem dL_listQuantity_0 : decode cL_listQuantity 0 = .ok (.aload_n 0, 1) := by decide +kernel
theorem dL_listQuantity_1 : decode cL_listQuantity 1 = .ok (.iload_n 1, 1) := by decide +kernel
theorem dL_listQuantity_2 : decode cL_listQuantity 2 = .ok (.iload_n 2, 1) := by decide +kernel
theorem dL_listQuantity_3 : decode cL_listQuantity 3 = .ok (.iload_n 3, 1) := by decide +kernel
theorem dL_listQuantity_4 : decode cL_listQuantity 4 = .ok (.invokevirtual 76, 3) := by decide +kernel
theorem dL_listQuantity_7 : decode cL_listQuantity 7 = .ok (.lreturn, 1) := by decide +kernel
theorem dL_listQuantity_8 : decode cL_listQuantity 8 = .ok (.astore 4, 2) := by decide +kernel
theorem dL_listQuantity_10 : decode cL_listQuantity 10 = .ok (.ldc2_w 80, 3) := by decide +kernel
theorem dL_listQuantity_13 : decode cL_listQuantity 13 = .ok (.lreturn, 1) := by decide +kernel
theorem dL_listQuantity_14 : decode cL_listQuantity 14 = .ok (.astore 4, 2) := by decide +kernel
theorem dL_listQuantity_16 : decode cL_listQuantity 16 = .ok (.ldc2_w 82, 3) := by decide +kernel
theorem dL_listQuantity_19 : decode cL_listQuantity 19 = .ok (.lreturn, 1) := by decide +kernel
theorem dL_listQuantity_20 : decode cL_listQuantity 20 = .ok (.astore 4, 2) := by decide +kernel
theorem dL_listQuantity_22 : decode cL_listQuantity 22 = .ok (.ldc2_w 84, 3) := by decide +kernel
theorem dL_listQuantity_25 : decode cL_listQuantity 25 = .ok (.lreturn, 1) := by decide +kernel
theorem dL_quantity_0 : decode cL_quantity 0 = .ok (.aload_n 0, 1) := by decide +kernel
theorem dL_quantity_1 : decode cL_quantity 1 = .ok (.iload_n 1, 1) := by decide +kernel
theorem dL_quantity_2 : decode cL_quantity 2 = .ok (.iload_n 2, 1) := by decide +kernel
theorem dL_quantity_3 : decode cL_quantity 3 = .ok (.iload_n 3, 1) := by decide +kernel
theorem dL_quantity_4 : decode cL_quantity 4 = .ok (.invokevirtual 86, 3) := by decide +kernel
theorem dL_quantity_7 : decode cL_quantity 7 = .ok (.lreturn, 1) := by decide +kernel
theorem dL_quantity_8 : decode cL_quantity 8 = .ok (.astore 4, 2) := by decide +kernel
theorem dL_quantity_10 : decode cL_quantity 10 = .ok (.ldc2_w 80, 3) := by decide +kernel
theorem dL_quantity_13 : decode cL_quantity 13 = .ok (.lreturn, 1) := by decide +kernel
theorem dL_quantity_14 : decode cL_quantity 14 = .ok (.astore 4, 2) := by decide +kernel
theorem dL_quantity_16 : decode cL_quantity 16 = .ok (.ldc2_w 82, 3) := by decide +kernel
theorem dL_quantity_19 : decode cL_quantity 19 = .ok (.lreturn, 1) := by decide +kernel
theorem dL_quantityByWalking_0 : decode cL_quantityByWalking 0 = .ok (.aload_n 0, 1) := by decide +kernel
theorem dL_quantityByWalking_1 : decode cL_quantityByWalking 1 = .ok (.iload_n 1, 1) := by decide +kernel
theorem dL_quantityByWalking_2 : decode cL_quantityByWalking 2 = .ok (.iload_n 2, 1) := by decide +kernel
theorem dL_quantityByWalking_3 : decode cL_quantityByWalking 3 = .ok (.iload_n 3, 1) := by decide +kernel
theorem dL_quantityByWalking_4 : decode cL_quantityByWalking 4 = .ok (.invokevirtual 89, 3) := by decide +kernel
theorem dL_quantityByWalking_7 : decode cL_quantityByWalking 7 = .ok (.lreturn, 1) := by decide +kernel
theorem dL_quantityByWalking_8 : decode cL_quantityByWalking 8 = .ok (.astore 4, 2) := by decide +kernel
theorem dL_quantityByWalking_10 : decode cL_quantityByWalking 10 = .ok (.ldc2_w 80, 3) := by decide +kernel
theorem dL_quantityByWalking_13 : decode cL_quantityByWalking 13 = .ok (.lreturn, 1) := by decide +kernel
theorem dL_quantityByWalking_14 : decode cL_quantityByWalking 14 = .ok (.astore 4, 2) := by decide +kernel
theorem dL_quantityByWalking_16 : decode cL_quantityByWalking 16 = .ok (.ldc2_w 82, 3) := by decide +kernel
theorem dL_quantityByWalking_19 : decode cL_quantityByWalking 19 = .ok (.lreturn, 1) := by decide +kernel
theorem dL_whereUsed_0 : decode cL_whereUsed 0 = .ok (.aload_n 0, 1) := by decide +kernel
theorem dL_whereUsed_1 : decode cL_whereUsed 1 = .ok (.iload_n 1, 1) := by decide +kernel
theorem dL_whereUsed_2 : decode cL_whereUsed 2 = .ok (.iload_n 2, 1) := by decide +kernel
theorem dL_whereUsed_3 : decode cL_whereUsed 3 = .ok (.invokevirtual 92, 3) := by decide +kernel
theorem dL_whereUsed_6 : decode cL_whereUsed 6 = .ok (.ireturn, 1) := by decide +kernel
theorem dL_whereUsed_7 : decode cL_whereUsed 7 = .ok (.astore_n 3, 1) := by decide +kernel
theorem dL_whereUsed_8 : decode cL_whereUsed 8 = .ok (.bipush (-77), 2) := by decide +kernel
theorem dL_whereUsed_10 : decode cL_whereUsed 10 = .ok (.ireturn, 1) := by decide +kernel
theorem dL_whereUsed_11 : decode cL_whereUsed 11 = .ok (.astore_n 3, 1) := by decide +kernel
theorem dL_whereUsed_12 : decode cL_whereUsed 12 = .ok (.bipush (-78), 2) := by decide +kernel
theorem dL_whereUsed_14 : decode cL_whereUsed 14 = .ok (.ireturn, 1) := by decide +kernel
theorem dL_levels_0 : decode cL_levels 0 = .ok (.aload_n 0, 1) := by decide +kernel
theorem dL_levels_1 : decode cL_levels 1 = .ok (.iload_n 1, 1) := by decide +kernel
theorem dL_levels_2 : decode cL_levels 2 = .ok (.iload_n 2, 1) := by decide +kernel
theorem dL_levels_3 : decode cL_levels 3 = .ok (.invokevirtual 95, 3) := by decide +kernel
theorem dL_levels_6 : decode cL_levels 6 = .ok (.ireturn, 1) := by decide +kernel
theorem dL_levels_7 : decode cL_levels 7 = .ok (.astore_n 3, 1) := by decide +kernel
theorem dL_levels_8 : decode cL_levels 8 = .ok (.bipush (-77), 2) := by decide +kernel
theorem dL_levels_10 : decode cL_levels 10 = .ok (.ireturn, 1) := by decide +kernel
theorem dL_levels_11 : decode cL_levels 11 = .ok (.astore_n 3, 1) := by decide +kernel
theorem dL_levels_12 : decode cL_levels 12 = .ok (.bipush (-78), 2) := by decide +kernel
theorem dL_levels_14 : decode cL_levels 14 = .ok (.ireturn, 1) := by decide +kernel
theorem dL_cost_0 : decode cL_cost 0 = .ok (.aload_n 0, 1) := by decide +kernel
theorem dL_cost_1 : decode cL_cost 1 = .ok (.iload_n 1, 1) := by decide +kernel
theorem dL_cost_2 : decode cL_cost 2 = .ok (.iload_n 2, 1) := by decide +kernel
theorem dL_cost_3 : decode cL_cost 3 = .ok (.invokevirtual 98, 3) := by decide +kernel
theorem dL_cost_6 : decode cL_cost 6 = .ok (.freturn, 1) := by decide +kernel
theorem dL_cost_7 : decode cL_cost 7 = .ok (.astore_n 3, 1) := by decide +kernel
theorem dL_cost_8 : decode cL_cost 8 = .ok (.ldc 102, 2) := by decide +kernel
theorem dL_cost_10 : decode cL_cost 10 = .ok (.freturn, 1) := by decide +kernel
theorem dL_cost_11 : decode cL_cost 11 = .ok (.astore_n 3, 1) := by decide +kernel
theorem dL_cost_12 : decode cL_cost 12 = .ok (.ldc 103, 2) := by decide +kernel
theorem dL_cost_14 : decode cL_cost 14 = .ok (.freturn, 1) := by decide +kernel
theorem dL_costByWalking_0 : decode cL_costByWalking 0 = .ok (.aload_n 0, 1) := by decide +kernel
theorem dL_costByWalking_1 : decode cL_costByWalking 1 = .ok (.iload_n 1, 1) := by decide +kernel
theorem dL_costByWalking_2 : decode cL_costByWalking 2 = .ok (.iload_n 2, 1) := by decide +kernel
theorem dL_costByWalking_3 : decode cL_costByWalking 3 = .ok (.invokevirtual 104, 3) := by decide +kernel
theorem dL_costByWalking_6 : decode cL_costByWalking 6 = .ok (.freturn, 1) := by decide +kernel
theorem dL_costByWalking_7 : decode cL_costByWalking 7 = .ok (.astore_n 3, 1) := by decide +kernel
theorem dL_costByWalking_8 : decode cL_costByWalking 8 = .ok (.ldc 102, 2) := by decide +kernel
theorem dL_costByWalking_10 : decode cL_costByWalking 10 = .ok (.freturn, 1) := by decide +kernel
theorem dL_costByWalking_11 : decode cL_costByWalking 11 = .ok (.astore_n 3, 1) := by decide +kernel
theorem dL_costByWalking_12 : decode cL_costByWalking 12 = .ok (.ldc 103, 2) := by decide +kernel
theorem dL_costByWalking_14 : decode cL_costByWalking 14 = .ok (.freturn, 1) := by decide +kernel
theorem dL_costBits_0 : decode cL_costBits 0 = .ok (.aload_n 0, 1) := by decide +kernel
theorem dL_costBits_1 : decode cL_costBits 1 = .ok (.iload_n 1, 1) := by decide +kernel
theorem dL_costBits_2 : decode cL_costBits 2 = .ok (.iload_n 2, 1) := by decide +kernel
theorem dL_costBits_3 : decode cL_costBits 3 = .ok (.invokevirtual 107, 3) := by decide +kernel
theorem dL_costBits_6 : decode cL_costBits 6 = .ok (.ireturn, 1) := by decide +kernel
theorem dL_costBits_7 : decode cL_costBits 7 = .ok (.astore_n 3, 1) := by decide +kernel
theorem dL_costBits_8 : decode cL_costBits 8 = .ok (.bipush (-77), 2) := by decide +kernel
theorem dL_costBits_10 : decode cL_costBits 10 = .ok (.ireturn, 1) := by decide +kernel
theorem dL_costBits_11 : decode cL_costBits 11 = .ok (.astore_n 3, 1) := by decide +kernel
theorem dL_costBits_12 : decode cL_costBits 12 = .ok (.bipush (-78), 2) := by decide +kernel
theorem dL_costBits_14 : decode cL_costBits 14 = .ok (.ireturn, 1) := by decide +kernel
theorem dL_costCents_0 : decode cL_costCents 0 = .ok (.aload_n 0, 1) := by decide +kernel
theorem dL_costCents_1 : decode cL_costCents 1 = .ok (.iload_n 1, 1) := by decide +kernel
theorem dL_costCents_2 : decode cL_costCents 2 = .ok (.iload_n 2, 1) := by decide +kernel
theorem dL_costCents_3 : decode cL_costCents 3 = .ok (.invokevirtual 110, 3) := by decide +kernel
theorem dL_costCents_6 : decode cL_costCents 6 = .ok (.ireturn, 1) := by decide +kernel
theorem dL_costCents_7 : decode cL_costCents 7 = .ok (.astore_n 3, 1) := by decide +kernel
theorem dL_costCents_8 : decode cL_costCents 8 = .ok (.bipush (-77), 2) := by decide +kernel
theorem dL_costCents_10 : decode cL_costCents 10 = .ok (.ireturn, 1) := by decide +kernel
theorem dL_costCents_11 : decode cL_costCents 11 = .ok (.astore_n 3, 1) := by decide +kernel
theorem dL_costCents_12 : decode cL_costCents 12 = .ok (.bipush (-78), 2) := by decide +kernel
theorem dL_costCents_14 : decode cL_costCents 14 = .ok (.ireturn, 1) := by decide +kernel
theorem dL_dearest_0 : decode cL_dearest 0 = .ok (.aload_n 0, 1) := by decide +kernel
theorem dL_dearest_1 : decode cL_dearest 1 = .ok (.iload_n 1, 1) := by decide +kernel
theorem dL_dearest_2 : decode cL_dearest 2 = .ok (.iload_n 2, 1) := by decide +kernel
theorem dL_dearest_3 : decode cL_dearest 3 = .ok (.invokevirtual 113, 3) := by decide +kernel
theorem dL_dearest_6 : decode cL_dearest 6 = .ok (.ireturn, 1) := by decide +kernel
theorem dL_dearest_7 : decode cL_dearest 7 = .ok (.astore_n 3, 1) := by decide +kernel
theorem dL_dearest_8 : decode cL_dearest 8 = .ok (.bipush (-77), 2) := by decide +kernel
theorem dL_dearest_10 : decode cL_dearest 10 = .ok (.ireturn, 1) := by decide +kernel
theorem dL_dearest_11 : decode cL_dearest 11 = .ok (.astore_n 3, 1) := by decide +kernel
theorem dL_dearest_12 : decode cL_dearest 12 = .ok (.bipush (-78), 2) := by decide +kernel
theorem dL_dearest_14 : decode cL_dearest 14 = .ok (.ireturn, 1) := by decide +kernel
theorem dL_dearest_15 : decode cL_dearest 15 = .ok (.astore_n 3, 1) := by decide +kernel
theorem dL_dearest_16 : decode cL_dearest 16 = .ok (.bipush (-75), 2) := by decide +kernel
theorem dL_dearest_18 : decode cL_dearest 18 = .ok (.ireturn, 1) := by decide +kernel
theorem dL_weight_0 : decode cL_weight 0 = .ok (.aload_n 0, 1) := by decide +kernel
theorem dL_weight_1 : decode cL_weight 1 = .ok (.iload_n 1, 1) := by decide +kernel
theorem dL_weight_2 : decode cL_weight 2 = .ok (.iload_n 2, 1) := by decide +kernel
theorem dL_weight_3 : decode cL_weight 3 = .ok (.invokevirtual 116, 3) := by decide +kernel
theorem dL_weight_6 : decode cL_weight 6 = .ok (.dreturn, 1) := by decide +kernel
theorem dL_weight_7 : decode cL_weight 7 = .ok (.astore_n 3, 1) := by decide +kernel
theorem dL_weight_8 : decode cL_weight 8 = .ok (.ldc2_w 120, 3) := by decide +kernel
theorem dL_weight_11 : decode cL_weight 11 = .ok (.dreturn, 1) := by decide +kernel
theorem dL_weight_12 : decode cL_weight 12 = .ok (.astore_n 3, 1) := by decide +kernel
theorem dL_weight_13 : decode cL_weight 13 = .ok (.ldc2_w 122, 3) := by decide +kernel
theorem dL_weight_16 : decode cL_weight 16 = .ok (.dreturn, 1) := by decide +kernel
theorem dL_weightBits_0 : decode cL_weightBits 0 = .ok (.aload_n 0, 1) := by decide +kernel
theorem dL_weightBits_1 : decode cL_weightBits 1 = .ok (.iload_n 1, 1) := by decide +kernel
theorem dL_weightBits_2 : decode cL_weightBits 2 = .ok (.iload_n 2, 1) := by decide +kernel
theorem dL_weightBits_3 : decode cL_weightBits 3 = .ok (.invokevirtual 124, 3) := by decide +kernel
theorem dL_weightBits_6 : decode cL_weightBits 6 = .ok (.lreturn, 1) := by decide +kernel
theorem dL_weightBits_7 : decode cL_weightBits 7 = .ok (.astore_n 3, 1) := by decide +kernel
theorem dL_weightBits_8 : decode cL_weightBits 8 = .ok (.ldc2_w 80, 3) := by decide +kernel
theorem dL_weightBits_11 : decode cL_weightBits 11 = .ok (.lreturn, 1) := by decide +kernel
theorem dL_weightBits_12 : decode cL_weightBits 12 = .ok (.astore_n 3, 1) := by decide +kernel
theorem dL_weightBits_13 : decode cL_weightBits 13 = .ok (.ldc2_w 82, 3) := by decide +kernel
theorem dL_weightBits_16 : decode cL_weightBits 16 = .ok (.lreturn, 1) := by decide +kernel
theorem dL_markCosts_0 : decode cL_markCosts 0 = .ok (.aload_n 0, 1) := by decide +kernel
theorem dL_markCosts_1 : decode cL_markCosts 1 = .ok (.iload_n 1, 1) := by decide +kernel
theorem dL_markCosts_2 : decode cL_markCosts 2 = .ok (.invokevirtual 128, 3) := by decide +kernel
theorem dL_markCosts_5 : decode cL_markCosts 5 = .ok (.ireturn, 1) := by decide +kernel
theorem dL_markCosts_6 : decode cL_markCosts 6 = .ok (.astore_n 2, 1) := by decide +kernel
theorem dL_markCosts_7 : decode cL_markCosts 7 = .ok (.bipush (-78), 2) := by decide +kernel
theorem dL_markCosts_9 : decode cL_markCosts 9 = .ok (.ireturn, 1) := by decide +kernel
theorem dL_costChange_0 : decode cL_costChange 0 = .ok (.aload_n 0, 1) := by decide +kernel
theorem dL_costChange_1 : decode cL_costChange 1 = .ok (.iload_n 1, 1) := by decide +kernel
theorem dL_costChange_2 : decode cL_costChange 2 = .ok (.iload_n 2, 1) := by decide +kernel
theorem dL_costChange_3 : decode cL_costChange 3 = .ok (.invokevirtual 131, 3) := by decide +kernel
theorem dL_costChange_6 : decode cL_costChange 6 = .ok (.freturn, 1) := by decide +kernel
theorem dL_costChange_7 : decode cL_costChange 7 = .ok (.astore_n 3, 1) := by decide +kernel
theorem dL_costChange_8 : decode cL_costChange 8 = .ok (.ldc 102, 2) := by decide +kernel
theorem dL_costChange_10 : decode cL_costChange 10 = .ok (.freturn, 1) := by decide +kernel
theorem dL_costChange_11 : decode cL_costChange 11 = .ok (.astore_n 3, 1) := by decide +kernel
theorem dL_costChange_12 : decode cL_costChange 12 = .ok (.ldc 103, 2) := by decide +kernel
theorem dL_costChange_14 : decode cL_costChange 14 = .ok (.freturn, 1) := by decide +kernel
theorem dL_costChange_15 : decode cL_costChange 15 = .ok (.astore_n 3, 1) := by decide +kernel
theorem dL_costChange_16 : decode cL_costChange 16 = .ok (.ldc 134, 2) := by decide +kernel
theorem dL_costChange_18 : decode cL_costChange 18 = .ok (.freturn, 1) := by decide +kernel
theorem dL_order_0 : decode cL_order 0 = .ok (.aload_n 0, 1) := by decide +kernel
theorem dL_order_1 : decode cL_order 1 = .ok (.iload_n 1, 1) := by decide +kernel
theorem dL_order_2 : decode cL_order 2 = .ok (.iload_n 2, 1) := by decide +kernel
theorem dL_order_3 : decode cL_order 3 = .ok (.iload_n 3, 1) := by decide +kernel
theorem dL_order_4 : decode cL_order 4 = .ok (.invokevirtual 135, 3) := by decide +kernel
theorem dL_order_7 : decode cL_order 7 = .ok (.ireturn, 1) := by decide +kernel
theorem dL_order_8 : decode cL_order 8 = .ok (.astore 4, 2) := by decide +kernel
theorem dL_order_10 : decode cL_order 10 = .ok (.bipush (-77), 2) := by decide +kernel
theorem dL_order_12 : decode cL_order 12 = .ok (.ireturn, 1) := by decide +kernel
theorem dL_order_13 : decode cL_order 13 = .ok (.astore 4, 2) := by decide +kernel
theorem dL_order_15 : decode cL_order 15 = .ok (.bipush (-78), 2) := by decide +kernel
theorem dL_order_17 : decode cL_order 17 = .ok (.ireturn, 1) := by decide +kernel
theorem dL_order_18 : decode cL_order 18 = .ok (.astore 4, 2) := by decide +kernel
theorem dL_order_20 : decode cL_order 20 = .ok (.bipush (-79), 2) := by decide +kernel
theorem dL_order_22 : decode cL_order 22 = .ok (.ireturn, 1) := by decide +kernel
theorem dL_cancel_0 : decode cL_cancel 0 = .ok (.aload_n 0, 1) := by decide +kernel
theorem dL_cancel_1 : decode cL_cancel 1 = .ok (.iload_n 1, 1) := by decide +kernel
theorem dL_cancel_2 : decode cL_cancel 2 = .ok (.invokevirtual 138, 3) := by decide +kernel
theorem dL_cancel_5 : decode cL_cancel 5 = .ok (.ireturn, 1) := by decide +kernel
theorem dL_cancel_6 : decode cL_cancel 6 = .ok (.astore_n 2, 1) := by decide +kernel
theorem dL_cancel_7 : decode cL_cancel 7 = .ok (.bipush (-77), 2) := by decide +kernel
theorem dL_cancel_9 : decode cL_cancel 9 = .ok (.ireturn, 1) := by decide +kernel
theorem dL_cancel_10 : decode cL_cancel 10 = .ok (.astore_n 2, 1) := by decide +kernel
theorem dL_cancel_11 : decode cL_cancel 11 = .ok (.bipush (-79), 2) := by decide +kernel
theorem dL_cancel_13 : decode cL_cancel 13 = .ok (.ireturn, 1) := by decide +kernel
theorem dL_need_0 : decode cL_need 0 = .ok (.aload_n 0, 1) := by decide +kernel
theorem dL_need_1 : decode cL_need 1 = .ok (.iload_n 1, 1) := by decide +kernel
theorem dL_need_2 : decode cL_need 2 = .ok (.invokevirtual 141, 3) := by decide +kernel
theorem dL_need_5 : decode cL_need 5 = .ok (.lreturn, 1) := by decide +kernel
theorem dL_need_6 : decode cL_need 6 = .ok (.astore_n 2, 1) := by decide +kernel
theorem dL_need_7 : decode cL_need 7 = .ok (.ldc2_w 80, 3) := by decide +kernel
theorem dL_need_10 : decode cL_need 10 = .ok (.lreturn, 1) := by decide +kernel
