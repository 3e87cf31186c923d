/-! what the bytes of the law's helpers say -/
theorem dL_addPart_0 : decode cL_addPart 0 = .ok (.aload 4, 2) := by decide +kernel
theorem dL_addPart_2 : decode cL_addPart 2 = .ok (.iconst 0, 1) := by decide +kernel
theorem dL_addPart_3 : decode cL_addPart 3 = .ok (.aload_n 0, 1) := by decide +kernel
theorem dL_addPart_4 : decode cL_addPart 4 = .ok (.iload_n 1, 1) := by decide +kernel
theorem dL_addPart_5 : decode cL_addPart 5 = .ok (.iload_n 2, 1) := by decide +kernel
theorem dL_addPart_6 : decode cL_addPart 6 = .ok (.iload_n 3, 1) := by decide +kernel
theorem dL_addPart_7 : decode cL_addPart 7 = .ok (.invokevirtual 7, 3) := by decide +kernel
theorem dL_addPart_10 : decode cL_addPart 10 = .ok (.i2l, 1) := by decide +kernel
theorem dL_addPart_11 : decode cL_addPart 11 = .ok (.lastore, 1) := by decide +kernel
theorem dL_addPart_12 : decode cL_addPart 12 = .ok (.goto 11, 3) := by decide +kernel
theorem dL_addPart_15 : decode cL_addPart 15 = .ok (.astore 5, 2) := by decide +kernel
theorem dL_addPart_17 : decode cL_addPart 17 = .ok (.iconst 1, 1) := by decide +kernel
theorem dL_addPart_18 : decode cL_addPart 18 = .ok (.ireturn, 1) := by decide +kernel
theorem dL_addPart_19 : decode cL_addPart 19 = .ok (.astore 5, 2) := by decide +kernel
theorem dL_addPart_21 : decode cL_addPart 21 = .ok (.iconst 2, 1) := by decide +kernel
theorem dL_addPart_22 : decode cL_addPart 22 = .ok (.ireturn, 1) := by decide +kernel
theorem dL_addPart_23 : decode cL_addPart 23 = .ok (.iconst 0, 1) := by decide +kernel
theorem dL_addPart_24 : decode cL_addPart 24 = .ok (.ireturn, 1) := by decide +kernel
theorem dL_setPrice_0 : decode cL_setPrice 0 = .ok (.aload_n 3, 1) := by decide +kernel
theorem dL_setPrice_1 : decode cL_setPrice 1 = .ok (.iconst 0, 1) := by decide +kernel
theorem dL_setPrice_2 : decode cL_setPrice 2 = .ok (.aload_n 0, 1) := by decide +kernel
theorem dL_setPrice_3 : decode cL_setPrice 3 = .ok (.iload_n 1, 1) := by decide +kernel
theorem dL_setPrice_4 : decode cL_setPrice 4 = .ok (.iload_n 2, 1) := by decide +kernel
theorem dL_setPrice_5 : decode cL_setPrice 5 = .ok (.invokevirtual 17, 3) := by decide +kernel
theorem dL_setPrice_8 : decode cL_setPrice 8 = .ok (.i2l, 1) := by decide +kernel
theorem dL_setPrice_9 : decode cL_setPrice 9 = .ok (.lastore, 1) := by decide +kernel
theorem dL_setPrice_10 : decode cL_setPrice 10 = .ok (.goto 11, 3) := by decide +kernel
theorem dL_setPrice_13 : decode cL_setPrice 13 = .ok (.astore 4, 2) := by decide +kernel
theorem dL_setPrice_15 : decode cL_setPrice 15 = .ok (.iconst 1, 1) := by decide +kernel
theorem dL_setPrice_16 : decode cL_setPrice 16 = .ok (.ireturn, 1) := by decide +kernel
theorem dL_setPrice_17 : decode cL_setPrice 17 = .ok (.astore 4, 2) := by decide +kernel
theorem dL_setPrice_19 : decode cL_setPrice 19 = .ok (.iconst 2, 1) := by decide +kernel
theorem dL_setPrice_20 : decode cL_setPrice 20 = .ok (.ireturn, 1) := by decide +kernel
theorem dL_setPrice_21 : decode cL_setPrice 21 = .ok (.iconst 0, 1) := by decide +kernel
theorem dL_setPrice_22 : decode cL_setPrice 22 = .ok (.ireturn, 1) := by decide +kernel
theorem dL_setGrams_0 : decode cL_setGrams 0 = .ok (.aload_n 3, 1) := by decide +kernel
theorem dL_setGrams_1 : decode cL_setGrams 1 = .ok (.iconst 0, 1) := by decide +kernel
theorem dL_setGrams_2 : decode cL_setGrams 2 = .ok (.aload_n 0, 1) := by decide +kernel
theorem dL_setGrams_3 : decode cL_setGrams 3 = .ok (.iload_n 1, 1) := by decide +kernel
theorem dL_setGrams_4 : decode cL_setGrams 4 = .ok (.iload_n 2, 1) := by decide +kernel
theorem dL_setGrams_5 : decode cL_setGrams 5 = .ok (.invokevirtual 23, 3) := by decide +kernel
theorem dL_setGrams_8 : decode cL_setGrams 8 = .ok (.i2l, 1) := by decide +kernel
theorem dL_setGrams_9 : decode cL_setGrams 9 = .ok (.lastore, 1) := by decide +kernel
theorem dL_setGrams_10 : decode cL_setGrams 10 = .ok (.goto 11, 3) := by decide +kernel
theorem dL_setGrams_13 : decode cL_setGrams 13 = .ok (.astore 4, 2) := by decide +kernel
theorem dL_setGrams_15 : decode cL_setGrams 15 = .ok (.iconst 1, 1) := by decide +kernel
theorem dL_setGrams_16 : decode cL_setGrams 16 = .ok (.ireturn, 1) := by decide +kernel
theorem dL_setGrams_17 : decode cL_setGrams 17 = .ok (.astore 4, 2) := by decide +kernel
theorem dL_setGrams_19 : decode cL_setGrams 19 = .ok (.iconst 2, 1) := by decide +kernel
theorem dL_setGrams_20 : decode cL_setGrams 20 = .ok (.ireturn, 1) := by decide +kernel
theorem dL_setGrams_21 : decode cL_setGrams 21 = .ok (.iconst 0, 1) := by decide +kernel
theorem dL_setGrams_22 : decode cL_setGrams 22 = .ok (.ireturn, 1) := by decide +kernel
theorem dL_setKind_0 : decode cL_setKind 0 = .ok (.aload_n 3, 1) := by decide +kernel
theorem dL_setKind_1 : decode cL_setKind 1 = .ok (.iconst 0, 1) := by decide +kernel
theorem dL_setKind_2 : decode cL_setKind 2 = .ok (.aload_n 0, 1) := by decide +kernel
theorem dL_setKind_3 : decode cL_setKind 3 = .ok (.iload_n 1, 1) := by decide +kernel
theorem dL_setKind_4 : decode cL_setKind 4 = .ok (.iload_n 2, 1) := by decide +kernel
theorem dL_setKind_5 : decode cL_setKind 5 = .ok (.invokevirtual 26, 3) := by decide +kernel
theorem dL_setKind_8 : decode cL_setKind 8 = .ok (.i2l, 1) := by decide +kernel
theorem dL_setKind_9 : decode cL_setKind 9 = .ok (.lastore, 1) := by decide +kernel
theorem dL_setKind_10 : decode cL_setKind 10 = .ok (.goto 11, 3) := by decide +kernel
theorem dL_setKind_13 : decode cL_setKind 13 = .ok (.astore 4, 2) := by decide +kernel
theorem dL_setKind_15 : decode cL_setKind 15 = .ok (.iconst 1, 1) := by decide +kernel
theorem dL_setKind_16 : decode cL_setKind 16 = .ok (.ireturn, 1) := by decide +kernel
theorem dL_setKind_17 : decode cL_setKind 17 = .ok (.astore 4, 2) := by decide +kernel
theorem dL_setKind_19 : decode cL_setKind 19 = .ok (.iconst 2, 1) := by decide +kernel
theorem dL_setKind_20 : decode cL_setKind 20 = .ok (.ireturn, 1) := by decide +kernel
theorem dL_setKind_21 : decode cL_setKind 21 = .ok (.iconst 0, 1) := by decide +kernel
theorem dL_setKind_22 : decode cL_setKind 22 = .ok (.ireturn, 1) := by decide +kernel
theorem dL_kind_0 : decode cL_kind 0 = .ok (.aload_n 2, 1) := by decide +kernel
theorem dL_kind_1 : decode cL_kind 1 = .ok (.iconst 0, 1) := by decide +kernel
theorem dL_kind_2 : decode cL_kind 2 = .ok (.aload_n 0, 1) := by decide +kernel
theorem dL_kind_3 : decode cL_kind 3 = .ok (.iload_n 1, 1) := by decide +kernel
theorem dL_kind_4 : decode cL_kind 4 = .ok (.invokevirtual 30, 3) := by decide +kernel
theorem dL_kind_7 : decode cL_kind 7 = .ok (.i2l, 1) := by decide +kernel
theorem dL_kind_8 : decode cL_kind 8 = .ok (.lastore, 1) := by decide +kernel
theorem dL_kind_9 : decode cL_kind 9 = .ok (.goto 6, 3) := by decide +kernel
theorem dL_kind_12 : decode cL_kind 12 = .ok (.astore_n 3, 1) := by decide +kernel
theorem dL_kind_13 : decode cL_kind 13 = .ok (.iconst 1, 1) := by decide +kernel
theorem dL_kind_14 : decode cL_kind 14 = .ok (.ireturn, 1) := by decide +kernel
theorem dL_kind_15 : decode cL_kind 15 = .ok (.iconst 0, 1) := by decide +kernel
theorem dL_kind_16 : decode cL_kind 16 = .ok (.ireturn, 1) := by decide +kernel
theorem dL_addLine_0 : decode cL_addLine 0 = .ok (.aload 7, 2) := by decide +kernel
theorem dL_addLine_2 : decode cL_addLine 2 = .ok (.iconst 0, 1) := by decide +kernel
theorem dL_addLine_3 : decode cL_addLine 3 = .ok (.aload_n 0, 1) := by decide +kernel
theorem dL_addLine_4 : decode cL_addLine 4 = .ok (.iload_n 1, 1) := by decide +kernel
theorem dL_addLine_5 : decode cL_addLine 5 = .ok (.iload_n 2, 1) := by decide +kernel
theorem dL_addLine_6 : decode cL_addLine 6 = .ok (.iload_n 3, 1) := by decide +kernel
theorem dL_addLine_7 : decode cL_addLine 7 = .ok (.iload 4, 2) := by decide +kernel
theorem dL_addLine_9 : decode cL_addLine 9 = .ok (.iload 5, 2) := by decide +kernel
theorem dL_addLine_11 : decode cL_addLine 11 = .ok (.iload 6, 2) := by decide +kernel
theorem dL_addLine_13 : decode cL_addLine 13 = .ok (.invokevirtual 34, 3) := by decide +kernel
theorem dL_addLine_16 : decode cL_addLine 16 = .ok (.i2l, 1) := by decide +kernel
theorem dL_addLine_17 : decode cL_addLine 17 = .ok (.lastore, 1) := by decide +kernel
theorem dL_addLine_18 : decode cL_addLine 18 = .ok (.goto 19, 3) := by decide +kernel
theorem dL_addLine_21 : decode cL_addLine 21 = .ok (.astore 8, 2) := by decide +kernel
theorem dL_addLine_23 : decode cL_addLine 23 = .ok (.iconst 1, 1) := by decide +kernel
theorem dL_addLine_24 : decode cL_addLine 24 = .ok (.ireturn, 1) := by decide +kernel
theorem dL_addLine_25 : decode cL_addLine 25 = .ok (.astore 8, 2) := by decide +kernel
theorem dL_addLine_27 : decode cL_addLine 27 = .ok (.iconst 2, 1) := by decide +kernel
theorem dL_addLine_28 : decode cL_addLine 28 = .ok (.ireturn, 1) := by decide +kernel
theorem dL_addLine_29 : decode cL_addLine 29 = .ok (.astore 8, 2) := by decide +kernel
theorem dL_addLine_31 : decode cL_addLine 31 = .ok (.iconst 3, 1) := by decide +kernel
theorem dL_addLine_32 : decode cL_addLine 32 = .ok (.ireturn, 1) := by decide +kernel
theorem dL_addLine_33 : decode cL_addLine 33 = .ok (.astore 8, 2) := by decide +kernel
theorem dL_addLine_35 : decode cL_addLine 35 = .ok (.iconst 4, 1) := by decide +kernel
theorem dL_addLine_36 : decode cL_addLine 36 = .ok (.ireturn, 1) := by decide +kernel
theorem dL_addLine_37 : decode cL_addLine 37 = .ok (.iconst 0, 1) := by decide +kernel
theorem dL_addLine_38 : decode cL_addLine 38 = .ok (.ireturn, 1) := by decide +kernel
theorem dL_addVariant_0 : decode cL_addVariant 0 = .ok (.aload 7, 2) := by decide +kernel
theorem dL_addVariant_2 : decode cL_addVariant 2 = .ok (.iconst 0, 1) := by decide +kernel
theorem dL_addVariant_3 : decode cL_addVariant 3 = .ok (.aload_n 0, 1) := by decide +kernel
theorem dL_addVariant_4 : decode cL_addVariant 4 = .ok (.iload_n 1, 1) := by decide +kernel
theorem dL_addVariant_5 : decode cL_addVariant 5 = .ok (.iload_n 2, 1) := by decide +kernel
theorem dL_addVariant_6 : decode cL_addVariant 6 = .ok (.iload_n 3, 1) := by decide +kernel
theorem dL_addVariant_7 : decode cL_addVariant 7 = .ok (.iload 4, 2) := by decide +kernel
theorem dL_addVariant_9 : decode cL_addVariant 9 = .ok (.iload 5, 2) := by decide +kernel
theorem dL_addVariant_11 : decode cL_addVariant 11 = .ok (.iload 6, 2) := by decide +kernel
theorem dL_addVariant_13 : decode cL_addVariant 13 = .ok (.invokevirtual 40, 3) := by decide +kernel
theorem dL_addVariant_16 : decode cL_addVariant 16 = .ok (.i2l, 1) := by decide +kernel
theorem dL_addVariant_17 : decode cL_addVariant 17 = .ok (.lastore, 1) := by decide +kernel
theorem dL_addVariant_18 : decode cL_addVariant 18 = .ok (.goto 19, 3) := by decide +kernel
theorem dL_addVariant_21 : decode cL_addVariant 21 = .ok (.astore 8, 2) := by decide +kernel
theorem dL_addVariant_23 : decode cL_addVariant 23 = .ok (.iconst 1, 1) := by decide +kernel
theorem dL_addVariant_24 : decode cL_addVariant 24 = .ok (.ireturn, 1) := by decide +kernel
theorem dL_addVariant_25 : decode cL_addVariant 25 = .ok (.astore 8, 2) := by decide +kernel
theorem dL_addVariant_27 : decode cL_addVariant 27 = .ok (.iconst 2, 1) := by decide +kernel
theorem dL_addVariant_28 : decode cL_addVariant 28 = .ok (.ireturn, 1) := by decide +kernel
theorem dL_addVariant_29 : decode cL_addVariant 29 = .ok (.astore 8, 2) := by decide +kernel
theorem dL_addVariant_31 : decode cL_addVariant 31 = .ok (.iconst 3, 1) := by decide +kernel
theorem dL_addVariant_32 : decode cL_addVariant 32 = .ok (.ireturn, 1) := by decide +kernel
theorem dL_addVariant_33 : decode cL_addVariant 33 = .ok (.astore 8, 2) := by decide +kernel
theorem dL_addVariant_35 : decode cL_addVariant 35 = .ok (.iconst 4, 1) := by decide +kernel
theorem dL_addVariant_36 : decode cL_addVariant 36 = .ok (.ireturn, 1) := by decide +kernel
theorem dL_addVariant_37 : decode cL_addVariant 37 = .ok (.iconst 0, 1) := by decide +kernel
theorem dL_addVariant_38 : decode cL_addVariant 38 = .ok (.ireturn, 1) := by decide +kernel
theorem dL_replaceFrom_0 : decode cL_replaceFrom 0 = .ok (.aload 5, 2) := by decide +kernel
theorem dL_replaceFrom_2 : decode cL_replaceFrom 2 = .ok (.iconst 0, 1) := by decide +kernel
theorem dL_replaceFrom_3 : decode cL_replaceFrom 3 = .ok (.aload_n 0, 1) := by decide +kernel
theorem dL_replaceFrom_4 : decode cL_replaceFrom 4 = .ok (.iload_n 1, 1) := by decide +kernel
theorem dL_replaceFrom_5 : decode cL_replaceFrom 5 = .ok (.iload_n 2, 1) := by decide +kernel
theorem dL_replaceFrom_6 : decode cL_replaceFrom 6 = .ok (.iload_n 3, 1) := by decide +kernel
theorem dL_replaceFrom_7 : decode cL_replaceFrom 7 = .ok (.iload 4, 2) := by decide +kernel
theorem dL_replaceFrom_9 : decode cL_replaceFrom 9 = .ok (.invokevirtual 43, 3) := by decide +kernel
theorem dL_replaceFrom_12 : decode cL_replaceFrom 12 = .ok (.i2l, 1) := by decide +kernel
theorem dL_replaceFrom_13 : decode cL_replaceFrom 13 = .ok (.lastore, 1) := by decide +kernel
theorem dL_replaceFrom_14 : decode cL_replaceFrom 14 = .ok (.goto 19, 3) := by decide +kernel
theorem dL_replaceFrom_17 : decode cL_replaceFrom 17 = .ok (.astore 6, 2) := by decide +kernel
theorem dL_replaceFrom_19 : decode cL_replaceFrom 19 = .ok (.iconst 1, 1) := by decide +kernel
theorem dL_replaceFrom_20 : decode cL_replaceFrom 20 = .ok (.ireturn, 1) := by decide +kernel
theorem dL_replaceFrom_21 : decode cL_replaceFrom 21 = .ok (.astore 6, 2) := by decide +kernel
theorem dL_replaceFrom_23 : decode cL_replaceFrom 23 = .ok (.iconst 2, 1) := by decide +kernel
theorem dL_replaceFrom_24 : decode cL_replaceFrom 24 = .ok (.ireturn, 1) := by decide +kernel
theorem dL_replaceFrom_25 : decode cL_replaceFrom 25 = .ok (.astore 6, 2) := by decide +kernel
theorem dL_replaceFrom_27 : decode cL_replaceFrom 27 = .ok (.iconst 3, 1) := by decide +kernel
theorem dL_replaceFrom_28 : decode cL_replaceFrom 28 = .ok (.ireturn, 1) := by decide +kernel
theorem dL_replaceFrom_29 : decode cL_replaceFrom 29 = .ok (.astore 6, 2) := by decide +kernel
theorem dL_replaceFrom_31 : decode cL_replaceFrom 31 = .ok (.iconst 4, 1) := by decide +kernel
theorem dL_replaceFrom_32 : decode cL_replaceFrom 32 = .ok (.ireturn, 1) := by decide +kernel
theorem dL_replaceFrom_33 : decode cL_replaceFrom 33 = .ok (.iconst 0, 1) := by decide +kernel
theorem dL_replaceFrom_34 : decode cL_replaceFrom 34 = .ok (.ireturn, 1) := by decide +kernel
theorem dL_endBefore_0 : decode cL_endBefore 0 = .ok (.aload_n 3, 1) := by decide +kernel
theorem dL_endBefore_1 : decode cL_endBefore 1 = .ok (.iconst 0, 1) := by decide +kernel
theorem dL_endBefore_2 : decode cL_endBefore 2 = .ok (.aload_n 0, 1) := by decide +kernel
theorem dL_endBefore_3 : decode cL_endBefore 3 = .ok (.iload_n 1, 1) := by decide +kernel
theorem dL_endBefore_4 : decode cL_endBefore 4 = .ok (.iload_n 2, 1) := by decide +kernel
theorem dL_endBefore_5 : decode cL_endBefore 5 = .ok (.invokevirtual 47, 3) := by decide +kernel
theorem dL_endBefore_8 : decode cL_endBefore 8 = .ok (.i2l, 1) := by decide +kernel
theorem dL_endBefore_9 : decode cL_endBefore 9 = .ok (.lastore, 1) := by decide +kernel
theorem dL_endBefore_10 : decode cL_endBefore 10 = .ok (.goto 11, 3) := by decide +kernel
theorem dL_endBefore_13 : decode cL_endBefore 13 = .ok (.astore 4, 2) := by decide +kernel
theorem dL_endBefore_15 : decode cL_endBefore 15 = .ok (.iconst 1, 1) := by decide +kernel
theorem dL_endBefore_16 : decode cL_endBefore 16 = .ok (.ireturn, 1) := by decide +kernel
theorem dL_endBefore_17 : decode cL_endBefore 17 = .ok (.astore 4, 2) := by decide +kernel
theorem dL_endBefore_19 : decode cL_endBefore 19 = .ok (.iconst 2, 1) := by decide +kernel
theorem dL_endBefore_20 : decode cL_endBefore 20 = .ok (.ireturn, 1) := by decide +kernel
theorem dL_endBefore_21 : decode cL_endBefore 21 = .ok (.iconst 0, 1) := by decide +kernel
theorem dL_endBefore_22 : decode cL_endBefore 22 = .ok (.ireturn, 1) := by decide +kernel
theorem dL_setScrap_0 : decode cL_setScrap 0 = .ok (.aload_n 3, 1) := by decide +kernel
theorem dL_setScrap_1 : decode cL_setScrap 1 = .ok (.iconst 0, 1) := by decide +kernel
theorem dL_setScrap_2 : decode cL_setScrap 2 = .ok (.aload_n 0, 1) := by decide +kernel
theorem dL_setScrap_3 : decode cL_setScrap 3 = .ok (.iload_n 1, 1) := by decide +kernel
theorem dL_setScrap_4 : decode cL_setScrap 4 = .ok (.iload_n 2, 1) := by decide +kernel
theorem dL_setScrap_5 : decode cL_setScrap 5 = .ok (.invokevirtual 50, 3) := by decide +kernel
theorem dL_setScrap_8 : decode cL_setScrap 8 = .ok (.i2l, 1) := by decide +kernel
theorem dL_setScrap_9 : decode cL_setScrap 9 = .ok (.lastore, 1) := by decide +kernel
theorem dL_setScrap_10 : decode cL_setScrap 10 = .ok (.goto 11, 3) := by decide +kernel
theorem dL_setScrap_13 : decode cL_setScrap 13 = .ok (.astore 4, 2) := by decide +kernel
theorem dL_setScrap_15 : decode cL_setScrap 15 = .ok (.iconst 1, 1) := by decide +kernel
theorem dL_setScrap_16 : decode cL_setScrap 16 = .ok (.ireturn, 1) := by decide +kernel
theorem dL_setScrap_17 : decode cL_setScrap 17 = .ok (.astore 4, 2) := by decide +kernel
theorem dL_setScrap_19 : decode cL_setScrap 19 = .ok (.iconst 2, 1) := by decide +kernel
theorem dL_setScrap_20 : decode cL_setScrap 20 = .ok (.ireturn, 1) := by decide +kernel
theorem dL_setScrap_21 : decode cL_setScrap 21 = .ok (.iconst 0, 1) := by decide +kernel
theorem dL_setScrap_22 : decode cL_setScrap 22 = .ok (.ireturn, 1) := by decide +kernel
theorem dL_lastSerial_0 : decode cL_lastSerial 0 = .ok (.aload_n 2, 1) := by decide +kernel
theorem dL_lastSerial_1 : decode cL_lastSerial 1 = .ok (.iconst 0, 1) := by decide +kernel
theorem dL_lastSerial_2 : decode cL_lastSerial 2 = .ok (.aload_n 0, 1) := by decide +kernel
theorem dL_lastSerial_3 : decode cL_lastSerial 3 = .ok (.iload_n 1, 1) := by decide +kernel
theorem dL_lastSerial_4 : decode cL_lastSerial 4 = .ok (.invokevirtual 53, 3) := by decide +kernel
theorem dL_lastSerial_7 : decode cL_lastSerial 7 = .ok (.i2l, 1) := by decide +kernel
theorem dL_lastSerial_8 : decode cL_lastSerial 8 = .ok (.lastore, 1) := by decide +kernel
theorem dL_lastSerial_9 : decode cL_lastSerial 9 = .ok (.goto 6, 3) := by decide +kernel
theorem dL_lastSerial_12 : decode cL_lastSerial 12 = .ok (.astore_n 3, 1) := by decide +kernel
theorem dL_lastSerial_13 : decode cL_lastSerial 13 = .ok (.iconst 1, 1) := by decide +kernel
theorem dL_lastSerial_14 : decode cL_lastSerial 14 = .ok (.ireturn, 1) := by decide +kernel
theorem dL_lastSerial_15 : decode cL_lastSerial 15 = .ok (.iconst 0, 1) := by decide +kernel
theorem dL_lastSerial_16 : decode cL_lastSerial 16 = .ok (.ireturn, 1) := by decide +kernel
theorem dL_holds_0 : decode cL_holds 0 = .ok (.aload_n 3, 1) := by decide +kernel
theorem dL_holds_1 : decode cL_holds 1 = .ok (.iconst 0, 1) := by decide +kernel
theorem dL_holds_2 : decode cL_holds 2 = .ok (.aload_n 0, 1) := by decide +kernel
theorem dL_holds_3 : decode cL_holds 3 = .ok (.iload_n 1, 1) := by decide +kernel
theorem dL_holds_4 : decode cL_holds 4 = .ok (.iload_n 2, 1) := by decide +kernel
theorem dL_holds_5 : decode cL_holds 5 = .ok (.invokevirtual 57, 3) := by decide +kernel
theorem dL_holds_8 : decode cL_holds 8 = .ok (.ifCond .eq 7, 3) := by decide +kernel
theorem dL_holds_11 : decode cL_holds 11 = .ok (.lconst 1, 1) := by decide +kernel
theorem dL_holds_12 : decode cL_holds 12 = .ok (.goto 4, 3) := by decide +kernel
theorem dL_holds_15 : decode cL_holds 15 = .ok (.lconst 0, 1) := by decide +kernel
theorem dL_holds_16 : decode cL_holds 16 = .ok (.lastore, 1) := by decide +kernel
theorem dL_holds_17 : decode cL_holds 17 = .ok (.goto 11, 3) := by decide +kernel
theorem dL_holds_20 : decode cL_holds 20 = .ok (.astore 4, 2) := by decide +kernel
theorem dL_holds_22 : decode cL_holds 22 = .ok (.iconst 1, 1) := by decide +kernel
theorem dL_holds_23 : decode cL_holds 23 = .ok (.ireturn, 1) := by decide +kernel
theorem dL_holds_24 : decode cL_holds 24 = .ok (.astore 4, 2) := by decide +kernel
theorem dL_holds_26 : decode cL_holds 26 = .ok (.iconst 2, 1) := by decide +kernel
theorem dL_holds_27 : decode cL_holds 27 = .ok (.ireturn, 1) := by decide +kernel
theorem dL_holds_28 : decode cL_holds 28 = .ok (.iconst 0, 1) := by decide +kernel
theorem dL_holds_29 : decode cL_holds 29 = .ok (.ireturn, 1) := by decide +kernel
theorem dL_setChoice_0 : decode cL_setChoice 0 = .ok (.aload_n 3, 1) := by decide +kernel
theorem dL_setChoice_1 : decode cL_setChoice 1 = .ok (.iconst 0, 1) := by decide +kernel
theorem dL_setChoice_2 : decode cL_setChoice 2 = .ok (.aload_n 0, 1) := by decide +kernel
theorem dL_setChoice_3 : decode cL_setChoice 3 = .ok (.iload_n 1, 1) := by decide +kernel
theorem dL_setChoice_4 : decode cL_setChoice 4 = .ok (.iload_n 2, 1) := by decide +kernel
theorem dL_setChoice_5 : decode cL_setChoice 5 = .ok (.invokevirtual 61, 3) := by decide +kernel
theorem dL_setChoice_8 : decode cL_setChoice 8 = .ok (.i2l, 1) := by decide +kernel
theorem dL_setChoice_9 : decode cL_setChoice 9 = .ok (.lastore, 1) := by decide +kernel
theorem dL_setChoice_10 : decode cL_setChoice 10 = .ok (.goto 11, 3) := by decide +kernel
theorem dL_setChoice_13 : decode cL_setChoice 13 = .ok (.astore 4, 2) := by decide +kernel
theorem dL_setChoice_15 : decode cL_setChoice 15 = .ok (.iconst 1, 1) := by decide +kernel
theorem dL_setChoice_16 : decode cL_setChoice 16 = .ok (.ireturn, 1) := by decide +kernel
theorem dL_setChoice_17 : decode cL_setChoice 17 = .ok (.astore 4, 2) := by decide +kernel
theorem dL_setChoice_19 : decode cL_setChoice 19 = .ok (.iconst 2, 1) := by decide +kernel
theorem dL_setChoice_20 : decode cL_setChoice 20 = .ok (.ireturn, 1) := by decide +kernel
theorem dL_setChoice_21 : decode cL_setChoice 21 = .ok (.iconst 0, 1) := by decide +kernel
theorem dL_setChoice_22 : decode cL_setChoice 22 = .ok (.ireturn, 1) := by decide +kernel
theorem dL_choice_0 : decode cL_choice 0 = .ok (.aload_n 2, 1) := by decide +kernel
theorem dL_choice_1 : decode cL_choice 1 = .ok (.iconst 0, 1) := by decide +kernel
theorem dL_choice_2 : decode cL_choice 2 = .ok (.aload_n 0, 1) := by decide +kernel
theorem dL_choice_3 : decode cL_choice 3 = .ok (.iload_n 1, 1) := by decide +kernel
theorem dL_choice_4 : decode cL_choice 4 = .ok (.invokevirtual 64, 3) := by decide +kernel
theorem dL_choice_7 : decode cL_choice 7 = .ok (.i2l, 1) := by decide +kernel
theorem dL_choice_8 : decode cL_choice 8 = .ok (.lastore, 1) := by decide +kernel
theorem dL_choice_9 : decode cL_choice 9 = .ok (.goto 6, 3) := by decide +kernel
theorem dL_choice_12 : decode cL_choice 12 = .ok (.astore_n 3, 1) := by decide +kernel
theorem dL_choice_13 : decode cL_choice 13 = .ok (.iconst 1, 1) := by decide +kernel
theorem dL_choice_14 : decode cL_choice 14 = .ok (.ireturn, 1) := by decide +kernel
theorem dL_choice_15 : decode cL_choice 15 = .ok (.iconst 0, 1) := by decide +kernel
theorem dL_choice_16 : decode cL_choice 16 = .ok (.ireturn, 1) := by decide +kernel
theorem dL_listSize_0 : decode cL_listSize 0 = .ok (.aload_n 3, 1) := by decide +kernel
theorem dL_listSize_1 : decode cL_listSize 1 = .ok (.iconst 0, 1) := by decide +kernel
theorem dL_listSize_2 : decode cL_listSize 2 = .ok (.aload_n 0, 1) := by decide +kernel
theorem dL_listSize_3 : decode cL_listSize 3 = .ok (.iload_n 1, 1) := by decide +kernel
theorem dL_listSize_4 : decode cL_listSize 4 = .ok (.iload_n 2, 1) := by decide +kernel
theorem dL_listSize_5 : decode cL_listSize 5 = .ok (.invokevirtual 67, 3) := by decide +kernel
theorem dL_listSize_8 : decode cL_listSize 8 = .ok (.i2l, 1) := by decide +kernel
theorem dL_listSize_9 : decode cL_listSize 9 = .ok (.lastore, 1) := by decide +kernel
theorem dL_listSize_10 : decode cL_listSize 10 = .ok (.goto 11, 3) := by decide +kernel
theorem dL_listSize_13 : decode cL_listSize 13 = .ok (.astore 4, 2) := by decide +kernel
theorem dL_listSize_15 : decode cL_listSize 15 = .ok (.iconst 1, 1) := by decide +kernel
theorem dL_listSize_16 : decode cL_listSize 16 = .ok (.ireturn, 1) := by decide +kernel
theorem dL_listSize_17 : decode cL_listSize 17 = .ok (.astore 4, 2) := by decide +kernel
theorem dL_listSize_19 : decode cL_listSize 19 = .ok (.iconst 2, 1) := by decide +kernel
theorem dL_listSize_20 : decode cL_listSize 20 = .ok (.ireturn, 1) := by decide +kernel
theorem dL_listSize_21 : decode cL_listSize 21 = .ok (.iconst 0, 1) := by decide +kernel
theorem dL_listSize_22 : decode cL_listSize 22 = .ok (.ireturn, 1) := by decide +kernel
theorem dL_listPart_0 : decode cL_listPart 0 = .ok (.aload 4, 2) := by decide +kernel
theorem dL_listPart_2 : decode cL_listPart 2 = .ok (.iconst 0, 1) := by decide +kernel
theorem dL_listPart_3 : decode cL_listPart 3 = .ok (.aload_n 0, 1) := by decide +kernel
theorem dL_listPart_4 : decode cL_listPart 4 = .ok (.iload_n 1, 1) := by decide +kernel
theorem dL_listPart_5 : decode cL_listPart 5 = .ok (.iload_n 2, 1) := by decide +kernel
theorem dL_listPart_6 : decode cL_listPart 6 = .ok (.iload_n 3, 1) := by decide +kernel
theorem dL_listPart_7 : decode cL_listPart 7 = .ok (.invokevirtual 70, 3) := by decide +kernel
theorem dL_listPart_10 : decode cL_listPart 10 = .ok (.i2l, 1) := by decide +kernel
theorem dL_listPart_11 : decode cL_listPart 11 = .ok (.lastore, 1) := by decide +kernel
theorem dL_listPart_12 : decode cL_listPart 12 = .ok (.goto 15, 3) := by decide +kernel
theorem dL_listPart_15 : decode cL_listPart 15 = .ok (.astore 5, 2) := by decide +kernel
theorem dL_listPart_17 : decode cL_listPart 17 = .ok (.iconst 1, 1) := by decide +kernel
theorem dL_listPart_18 : decode cL_listPart 18 = .ok (.ireturn, 1) := by decide +kernel
theorem dL_listPart_19 : decode cL_listPart 19 = .ok (.astore 5, 2) := by decide +kernel
theorem dL_listPart_21 : decode cL_listPart 21 = .ok (.iconst 2, 1) := by decide +kernel
theorem dL_listPart_22 : decode cL_listPart 22 = .ok (.ireturn, 1) := by decide +kernel
theorem dL_listPart_23 : decode cL_listPart 23 = .ok (.astore 5, 2) := by decide +kernel
theorem dL_listPart_25 : decode cL_listPart 25 = .ok (.iconst 3, 1) := by decide +kernel
theorem dL_listPart_26 : decode cL_listPart 26 = .ok (.ireturn, 1) := by decide +kernel
theorem dL_listPart_27 : decode cL_listPart 27 = .ok (.iconst 0, 1) := by decide +kernel
theorem dL_listPart_28 : decode cL_listPart 28 = .ok (.ireturn, 1) := by decide +kernel
theorem dL_listQuantity_0 : decode cL_listQuantity 0 = .ok (.aload 4, 2) := by decide +kernel
theorem dL_listQuantity_2 : decode cL_listQuantity 2 = .ok (.iconst 0, 1) := by decide +kernel
theorem dL_listQuantity_3 : decode cL_listQuantity 3 = .ok (.aload_n 0, 1) := by decide +kernel
theorem dL_listQuantity_4 : decode cL_listQuantity 4 = .ok (.iload_n 1, 1) := by decide +kernel
theorem dL_listQuantity_5 : decode cL_listQuantity 5 = .ok (.iload_n 2, 1) := by decide +kernel
theorem dL_listQuantity_6 : decode cL_listQuantity 6 = .ok (.iload_n 3, 1) := by decide +kernel
theorem dL_listQuantity_7 : decode cL_listQuantity 7 = .ok (.invokevirtual 76, 3) := by decide +kernel
theorem dL_listQuantity_10 : decode cL_listQuantity 10 = .ok (.lastore, 1) := by decide +kernel
theorem dL_listQuantity_11 : decode cL_listQuantity 11 = .ok (.goto 15, 3) := by decide +kernel
theorem dL_listQuantity_14 : decode cL_listQuantity 14 = .ok (.astore 5, 2) := by decide +kernel
theorem dL_listQuantity_16 : decode cL_listQuantity 16 = .ok (.iconst 1, 1) := by decide +kernel
theorem dL_listQuantity_17 : decode cL_listQuantity 17 = .ok (.ireturn, 1) := by decide +kernel
theorem dL_listQuantity_18 : decode cL_listQuantity 18 = .ok (.astore 5, 2) := by decide +kernel
theorem dL_listQuantity_20 : decode cL_listQuantity 20 = .ok (.iconst 2, 1) := by decide +kernel
theorem dL_listQuantity_21 : decode cL_listQuantity 21 = .ok (.ireturn, 1) := by decide +kernel
theorem dL_listQuantity_22 : decode cL_listQuantity 22 = .ok (.astore 5, 2) := by decide +kernel
theorem dL_listQuantity_24 : decode cL_listQuantity 24 = .ok (.iconst 3, 1) := by decide +kernel
theorem dL_listQuantity_25 : decode cL_listQuantity 25 = .ok (.ireturn, 1) := by decide +kernel
theorem dL_listQuantity_26 : decode cL_listQuantity 26 = .ok (.iconst 0, 1) := by decide +kernel
theorem dL_listQuantity_27 : decode cL_listQuantity 27 = .ok (.ireturn, 1) := by decide +kernel
theorem dL_writeList_0 : decode cL_writeList 0 = .ok (.aload_n 3, 1) := by decide +kernel
theorem dL_writeList_1 : decode cL_writeList 1 = .ok (.iconst 0, 1) := by decide +kernel
theorem dL_writeList_2 : decode cL_writeList 2 = .ok (.aload_n 0, 1) := by decide +kernel
theorem dL_writeList_3 : decode cL_writeList 3 = .ok (.iload_n 1, 1) := by decide +kernel
theorem dL_writeList_4 : decode cL_writeList 4 = .ok (.iload_n 2, 1) := by decide +kernel
theorem dL_writeList_5 : decode cL_writeList 5 = .ok (.invokevirtual 80, 3) := by decide +kernel
theorem dL_writeList_8 : decode cL_writeList 8 = .ok (.i2l, 1) := by decide +kernel
theorem dL_writeList_9 : decode cL_writeList 9 = .ok (.lastore, 1) := by decide +kernel
theorem dL_writeList_10 : decode cL_writeList 10 = .ok (.goto 11, 3) := by decide +kernel
theorem dL_writeList_13 : decode cL_writeList 13 = .ok (.astore 4, 2) := by decide +kernel
theorem dL_writeList_15 : decode cL_writeList 15 = .ok (.iconst 1, 1) := by decide +kernel
theorem dL_writeList_16 : decode cL_writeList 16 = .ok (.ireturn, 1) := by decide +kernel
theorem dL_writeList_17 : decode cL_writeList 17 = .ok (.astore 4, 2) := by decide +kernel
theorem dL_writeList_19 : decode cL_writeList 19 = .ok (.iconst 2, 1) := by decide +kernel
theorem dL_writeList_20 : decode cL_writeList 20 = .ok (.ireturn, 1) := by decide +kernel
theorem dL_writeList_21 : decode cL_writeList 21 = .ok (.iconst 0, 1) := by decide +kernel
theorem dL_writeList_22 : decode cL_writeList 22 = .ok (.ireturn, 1) := by decide +kernel
theorem dL_charAt_0 : decode cL_charAt 0 = .ok (.aload_n 2, 1) := by decide +kernel
theorem dL_charAt_1 : decode cL_charAt 1 = .ok (.iconst 0, 1) := by decide +kernel
theorem dL_charAt_2 : decode cL_charAt 2 = .ok (.aload_n 0, 1) := by decide +kernel
theorem dL_charAt_3 : decode cL_charAt 3 = .ok (.iload_n 1, 1) := by decide +kernel
theorem dL_charAt_4 : decode cL_charAt 4 = .ok (.invokevirtual 83, 3) := by decide +kernel
theorem dL_charAt_7 : decode cL_charAt 7 = .ok (.i2l, 1) := by decide +kernel
theorem dL_charAt_8 : decode cL_charAt 8 = .ok (.lastore, 1) := by decide +kernel
theorem dL_charAt_9 : decode cL_charAt 9 = .ok (.goto 6, 3) := by decide +kernel
theorem dL_charAt_12 : decode cL_charAt 12 = .ok (.astore_n 3, 1) := by decide +kernel
theorem dL_charAt_13 : decode cL_charAt 13 = .ok (.iconst 1, 1) := by decide +kernel
theorem dL_charAt_14 : decode cL_charAt 14 = .ok (.ireturn, 1) := by decide +kernel
theorem dL_charAt_15 : decode cL_charAt 15 = .ok (.iconst 0, 1) := by decide +kernel
theorem dL_charAt_16 : decode cL_charAt 16 = .ok (.ireturn, 1) := by decide +kernel
theorem dL_quantity_0 : decode cL_quantity 0 = .ok (.aload 4, 2) := by decide +kernel
theorem dL_quantity_2 : decode cL_quantity 2 = .ok (.iconst 0, 1) := by decide +kernel
theorem dL_quantity_3 : decode cL_quantity 3 = .ok (.aload_n 0, 1) := by decide +kernel
theorem dL_quantity_4 : decode cL_quantity 4 = .ok (.iload_n 1, 1) := by decide +kernel
theorem dL_quantity_5 : decode cL_quantity 5 = .ok (.iload_n 2, 1) := by decide +kernel
theorem dL_quantity_6 : decode cL_quantity 6 = .ok (.iload_n 3, 1) := by decide +kernel
theorem dL_quantity_7 : decode cL_quantity 7 = .ok (.invokevirtual 86, 3) := by decide +kernel
theorem dL_quantity_10 : decode cL_quantity 10 = .ok (.lastore, 1) := by decide +kernel
theorem dL_quantity_11 : decode cL_quantity 11 = .ok (.goto 11, 3) := by decide +kernel
theorem dL_quantity_14 : decode cL_quantity 14 = .ok (.astore 5, 2) := by decide +kernel
theorem dL_quantity_16 : decode cL_quantity 16 = .ok (.iconst 1, 1) := by decide +kernel
theorem dL_quantity_17 : decode cL_quantity 17 = .ok (.ireturn, 1) := by decide +kernel
theorem dL_quantity_18 : decode cL_quantity 18 = .ok (.astore 5, 2) := by decide +kernel
theorem dL_quantity_20 : decode cL_quantity 20 = .ok (.iconst 2, 1) := by decide +kernel
theorem dL_quantity_21 : decode cL_quantity 21 = .ok (.ireturn, 1) := by decide +kernel
theorem dL_quantity_22 : decode cL_quantity 22 = .ok (.iconst 0, 1) := by decide +kernel
theorem dL_quantity_23 : decode cL_quantity 23 = .ok (.ireturn, 1) := by decide +kernel
theorem dL_quantityByWalking_0 : decode cL_quantityByWalking 0 = .ok (.aload 4, 2) := by decide +kernel
theorem dL_quantityByWalking_2 : decode cL_quantityByWalking 2 = .ok (.iconst 0, 1) := by decide +kernel
theorem dL_quantityByWalking_3 : decode cL_quantityByWalking 3 = .ok (.aload_n 0, 1) := by decide +kernel
theorem dL_quantityByWalking_4 : decode cL_quantityByWalking 4 = .ok (.iload_n 1, 1) := by decide +kernel
theorem dL_quantityByWalking_5 : decode cL_quantityByWalking 5 = .ok (.iload_n 2, 1) := by decide +kernel
theorem dL_quantityByWalking_6 : decode cL_quantityByWalking 6 = .ok (.iload_n 3, 1) := by decide +kernel
theorem dL_quantityByWalking_7 : decode cL_quantityByWalking 7 = .ok (.invokevirtual 89, 3) := by decide +kernel
theorem dL_quantityByWalking_10 : decode cL_quantityByWalking 10 = .ok (.lastore, 1) := by decide +kernel
theorem dL_quantityByWalking_11 : decode cL_quantityByWalking 11 = .ok (.goto 11, 3) := by decide +kernel
theorem dL_quantityByWalking_14 : decode cL_quantityByWalking 14 = .ok (.astore 5, 2) := by decide +kernel
theorem dL_quantityByWalking_16 : decode cL_quantityByWalking 16 = .ok (.iconst 1, 1) := by decide +kernel
theorem dL_quantityByWalking_17 : decode cL_quantityByWalking 17 = .ok (.ireturn, 1) := by decide +kernel
theorem dL_quantityByWalking_18 : decode cL_quantityByWalking 18 = .ok (.astore 5, 2) := by decide +kernel
theorem dL_quantityByWalking_20 : decode cL_quantityByWalking 20 = .ok (.iconst 2, 1) := by decide +kernel
theorem dL_quantityByWalking_21 : decode cL_quantityByWalking 21 = .ok (.ireturn, 1) := by decide +kernel
theorem dL_quantityByWalking_22 : decode cL_quantityByWalking 22 = .ok (.iconst 0, 1) := by decide +kernel
theorem dL_quantityByWalking_23 : decode cL_quantityByWalking 23 = .ok (.ireturn, 1) := by decide +kernel
theorem dL_whereUsed_0 : decode cL_whereUsed 0 = .ok (.aload_n 3, 1) := by decide +kernel
theorem dL_whereUsed_1 : decode cL_whereUsed 1 = .ok (.iconst 0, 1) := by decide +kernel
theorem dL_whereUsed_2 : decode cL_whereUsed 2 = .ok (.aload_n 0, 1) := by decide +kernel
theorem dL_whereUsed_3 : decode cL_whereUsed 3 = .ok (.iload_n 1, 1) := by decide +kernel
theorem dL_whereUsed_4 : decode cL_whereUsed 4 = .ok (.iload_n 2, 1) := by decide +kernel
theorem dL_whereUsed_5 : decode cL_whereUsed 5 = .ok (.invokevirtual 92, 3) := by decide +kernel
theorem dL_whereUsed_8 : decode cL_whereUsed 8 = .ok (.i2l, 1) := by decide +kernel
theorem dL_whereUsed_9 : decode cL_whereUsed 9 = .ok (.lastore, 1) := by decide +kernel
theorem dL_whereUsed_10 : decode cL_whereUsed 10 = .ok (.goto 11, 3) := by decide +kernel
theorem dL_whereUsed_13 : decode cL_whereUsed 13 = .ok (.astore 4, 2) := by decide +kernel
theorem dL_whereUsed_15 : decode cL_whereUsed 15 = .ok (.iconst 1, 1) := by decide +kernel
theorem dL_whereUsed_16 : decode cL_whereUsed 16 = .ok (.ireturn, 1) := by decide +kernel
theorem dL_whereUsed_17 : decode cL_whereUsed 17 = .ok (.astore 4, 2) := by decide +kernel
theorem dL_whereUsed_19 : decode cL_whereUsed 19 = .ok (.iconst 2, 1) := by decide +kernel
theorem dL_whereUsed_20 : decode cL_whereUsed 20 = .ok (.ireturn, 1) := by decide +kernel
theorem dL_whereUsed_21 : decode cL_whereUsed 21 = .ok (.iconst 0, 1) := by decide +kernel
theorem dL_whereUsed_22 : decode cL_whereUsed 22 = .ok (.ireturn, 1) := by decide +kernel
theorem dL_levels_0 : decode cL_levels 0 = .ok (.aload_n 3, 1) := by decide +kernel
theorem dL_levels_1 : decode cL_levels 1 = .ok (.iconst 0, 1) := by decide +kernel
theorem dL_levels_2 : decode cL_levels 2 = .ok (.aload_n 0, 1) := by decide +kernel
theorem dL_levels_3 : decode cL_levels 3 = .ok (.iload_n 1, 1) := by decide +kernel
theorem dL_levels_4 : decode cL_levels 4 = .ok (.iload_n 2, 1) := by decide +kernel
theorem dL_levels_5 : decode cL_levels 5 = .ok (.invokevirtual 95, 3) := by decide +kernel
theorem dL_levels_8 : decode cL_levels 8 = .ok (.i2l, 1) := by decide +kernel
theorem dL_levels_9 : decode cL_levels 9 = .ok (.lastore, 1) := by decide +kernel
theorem dL_levels_10 : decode cL_levels 10 = .ok (.goto 11, 3) := by decide +kernel
theorem dL_levels_13 : decode cL_levels 13 = .ok (.astore 4, 2) := by decide +kernel
theorem dL_levels_15 : decode cL_levels 15 = .ok (.iconst 1, 1) := by decide +kernel
theorem dL_levels_16 : decode cL_levels 16 = .ok (.ireturn, 1) := by decide +kernel
theorem dL_levels_17 : decode cL_levels 17 = .ok (.astore 4, 2) := by decide +kernel
theorem dL_levels_19 : decode cL_levels 19 = .ok (.iconst 2, 1) := by decide +kernel
theorem dL_levels_20 : decode cL_levels 20 = .ok (.ireturn, 1) := by decide +kernel
theorem dL_levels_21 : decode cL_levels 21 = .ok (.iconst 0, 1) := by decide +kernel
theorem dL_levels_22 : decode cL_levels 22 = .ok (.ireturn, 1) := by decide +kernel
theorem dL_cost_0 : decode cL_cost 0 = .ok (.aload_n 3, 1) := by decide +kernel
theorem dL_cost_1 : decode cL_cost 1 = .ok (.iconst 0, 1) := by decide +kernel
theorem dL_cost_2 : decode cL_cost 2 = .ok (.aload_n 0, 1) := by decide +kernel
theorem dL_cost_3 : decode cL_cost 3 = .ok (.iload_n 1, 1) := by decide +kernel
theorem dL_cost_4 : decode cL_cost 4 = .ok (.iload_n 2, 1) := by decide +kernel
theorem dL_cost_5 : decode cL_cost 5 = .ok (.invokevirtual 98, 3) := by decide +kernel
theorem dL_cost_8 : decode cL_cost 8 = .ok (.f2d, 1) := by decide +kernel
theorem dL_cost_9 : decode cL_cost 9 = .ok (.dastore, 1) := by decide +kernel
theorem dL_cost_10 : decode cL_cost 10 = .ok (.goto 11, 3) := by decide +kernel
theorem dL_cost_13 : decode cL_cost 13 = .ok (.astore 4, 2) := by decide +kernel
theorem dL_cost_15 : decode cL_cost 15 = .ok (.iconst 1, 1) := by decide +kernel
theorem dL_cost_16 : decode cL_cost 16 = .ok (.ireturn, 1) := by decide +kernel
theorem dL_cost_17 : decode cL_cost 17 = .ok (.astore 4, 2) := by decide +kernel
theorem dL_cost_19 : decode cL_cost 19 = .ok (.iconst 2, 1) := by decide +kernel
theorem dL_cost_20 : decode cL_cost 20 = .ok (.ireturn, 1) := by decide +kernel
theorem dL_cost_21 : decode cL_cost 21 = .ok (.iconst 0, 1) := by decide +kernel
theorem dL_cost_22 : decode cL_cost 22 = .ok (.ireturn, 1) := by decide +kernel
theorem dL_costByWalking_0 : decode cL_costByWalking 0 = .ok (.aload_n 3, 1) := by decide +kernel
theorem dL_costByWalking_1 : decode cL_costByWalking 1 = .ok (.iconst 0, 1) := by decide +kernel
theorem dL_costByWalking_2 : decode cL_costByWalking 2 = .ok (.aload_n 0, 1) := by decide +kernel
theorem dL_costByWalking_3 : decode cL_costByWalking 3 = .ok (.iload_n 1, 1) := by decide +kernel
theorem dL_costByWalking_4 : decode cL_costByWalking 4 = .ok (.iload_n 2, 1) := by decide +kernel
theorem dL_costByWalking_5 : decode cL_costByWalking 5 = .ok (.invokevirtual 102, 3) := by decide +kernel
theorem dL_costByWalking_8 : decode cL_costByWalking 8 = .ok (.f2d, 1) := by decide +kernel
theorem dL_costByWalking_9 : decode cL_costByWalking 9 = .ok (.dastore, 1) := by decide +kernel
theorem dL_costByWalking_10 : decode cL_costByWalking 10 = .ok (.goto 11, 3) := by decide +kernel
theorem dL_costByWalking_13 : decode cL_costByWalking 13 = .ok (.astore 4, 2) := by decide +kernel
theorem dL_costByWalking_15 : decode cL_costByWalking 15 = .ok (.iconst 1, 1) := by decide +kernel
theorem dL_costByWalking_16 : decode cL_costByWalking 16 = .ok (.ireturn, 1) := by decide +kernel
theorem dL_costByWalking_17 : decode cL_costByWalking 17 = .ok (.astore 4, 2) := by decide +kernel
theorem dL_costByWalking_19 : decode cL_costByWalking 19 = .ok (.iconst 2, 1) := by decide +kernel
theorem dL_costByWalking_20 : decode cL_costByWalking 20 = .ok (.ireturn, 1) := by decide +kernel
theorem dL_costByWalking_21 : decode cL_costByWalking 21 = .ok (.iconst 0, 1) := by decide +kernel
theorem dL_costByWalking_22 : decode cL_costByWalking 22 = .ok (.ireturn, 1) := by decide +kernel
theorem dL_costBits_0 : decode cL_costBits 0 = .ok (.aload_n 3, 1) := by decide +kernel
theorem dL_costBits_1 : decode cL_costBits 1 = .ok (.iconst 0, 1) := by decide +kernel
theorem dL_costBits_2 : decode cL_costBits 2 = .ok (.aload_n 0, 1) := by decide +kernel
theorem dL_costBits_3 : decode cL_costBits 3 = .ok (.iload_n 1, 1) := by decide +kernel
theorem dL_costBits_4 : decode cL_costBits 4 = .ok (.iload_n 2, 1) := by decide +kernel
theorem dL_costBits_5 : decode cL_costBits 5 = .ok (.invokevirtual 105, 3) := by decide +kernel
theorem dL_costBits_8 : decode cL_costBits 8 = .ok (.i2l, 1) := by decide +kernel
theorem dL_costBits_9 : decode cL_costBits 9 = .ok (.lastore, 1) := by decide +kernel
theorem dL_costBits_10 : decode cL_costBits 10 = .ok (.goto 11, 3) := by decide +kernel
theorem dL_costBits_13 : decode cL_costBits 13 = .ok (.astore 4, 2) := by decide +kernel
theorem dL_costBits_15 : decode cL_costBits 15 = .ok (.iconst 1, 1) := by decide +kernel
theorem dL_costBits_16 : decode cL_costBits 16 = .ok (.ireturn, 1) := by decide +kernel
theorem dL_costBits_17 : decode cL_costBits 17 = .ok (.astore 4, 2) := by decide +kernel
theorem dL_costBits_19 : decode cL_costBits 19 = .ok (.iconst 2, 1) := by decide +kernel
theorem dL_costBits_20 : decode cL_costBits 20 = .ok (.ireturn, 1) := by decide +kernel
theorem dL_costBits_21 : decode cL_costBits 21 = .ok (.iconst 0, 1) := by decide +kernel
theorem dL_costBits_22 : decode cL_costBits 22 = .ok (.ireturn, 1) := by decide +kernel
theorem dL_costCents_0 : decode cL_costCents 0 = .ok (.aload_n 3, 1) := by decide +kernel
theorem dL_costCents_1 : decode cL_costCents 1 = .ok (.iconst 0, 1) := by decide +kernel
theorem dL_costCents_2 : decode cL_costCents 2 = .ok (.aload_n 0, 1) := by decide +kernel
theorem dL_costCents_3 : decode cL_costCents 3 = .ok (.iload_n 1, 1) := by decide +kernel
theorem dL_costCents_4 : decode cL_costCents 4 = .ok (.iload_n 2, 1) := by decide +kernel
theorem dL_costCents_5 : decode cL_costCents 5 = .ok (.invokevirtual 108, 3) := by decide +kernel
theorem dL_costCents_8 : decode cL_costCents 8 = .ok (.i2l, 1) := by decide +kernel
theorem dL_costCents_9 : decode cL_costCents 9 = .ok (.lastore, 1) := by decide +kernel
theorem dL_costCents_10 : decode cL_costCents 10 = .ok (.goto 11, 3) := by decide +kernel
theorem dL_costCents_13 : decode cL_costCents 13 = .ok (.astore 4, 2) := by decide +kernel
theorem dL_costCents_15 : decode cL_costCents 15 = .ok (.iconst 1, 1) := by decide +kernel
theorem dL_costCents_16 : decode cL_costCents 16 = .ok (.ireturn, 1) := by decide +kernel
theorem dL_costCents_17 : decode cL_costCents 17 = .ok (.astore 4, 2) := by decide +kernel
theorem dL_costCents_19 : decode cL_costCents 19 = .ok (.iconst 2, 1) := by decide +kernel
theorem dL_costCents_20 : decode cL_costCents 20 = .ok (.ireturn, 1) := by decide +kernel
theorem dL_costCents_21 : decode cL_costCents 21 = .ok (.iconst 0, 1) := by decide +kernel
theorem dL_costCents_22 : decode cL_costCents 22 = .ok (.ireturn, 1) := by decide +kernel
theorem dL_dearest_0 : decode cL_dearest 0 = .ok (.aload_n 3, 1) := by decide +kernel
theorem dL_dearest_1 : decode cL_dearest 1 = .ok (.iconst 0, 1) := by decide +kernel
theorem dL_dearest_2 : decode cL_dearest 2 = .ok (.aload_n 0, 1) := by decide +kernel
theorem dL_dearest_3 : decode cL_dearest 3 = .ok (.iload_n 1, 1) := by decide +kernel
theorem dL_dearest_4 : decode cL_dearest 4 = .ok (.iload_n 2, 1) := by decide +kernel
theorem dL_dearest_5 : decode cL_dearest 5 = .ok (.invokevirtual 111, 3) := by decide +kernel
theorem dL_dearest_8 : decode cL_dearest 8 = .ok (.i2l, 1) := by decide +kernel
theorem dL_dearest_9 : decode cL_dearest 9 = .ok (.lastore, 1) := by decide +kernel
theorem dL_dearest_10 : decode cL_dearest 10 = .ok (.goto 15, 3) := by decide +kernel
theorem dL_dearest_13 : decode cL_dearest 13 = .ok (.astore 4, 2) := by decide +kernel
theorem dL_dearest_15 : decode cL_dearest 15 = .ok (.iconst 1, 1) := by decide +kernel
theorem dL_dearest_16 : decode cL_dearest 16 = .ok (.ireturn, 1) := by decide +kernel
theorem dL_dearest_17 : decode cL_dearest 17 = .ok (.astore 4, 2) := by decide +kernel
theorem dL_dearest_19 : decode cL_dearest 19 = .ok (.iconst 2, 1) := by decide +kernel
theorem dL_dearest_20 : decode cL_dearest 20 = .ok (.ireturn, 1) := by decide +kernel
theorem dL_dearest_21 : decode cL_dearest 21 = .ok (.astore 4, 2) := by decide +kernel
theorem dL_dearest_23 : decode cL_dearest 23 = .ok (.iconst 3, 1) := by decide +kernel
theorem dL_dearest_24 : decode cL_dearest 24 = .ok (.ireturn, 1) := by decide +kernel
theorem dL_dearest_25 : decode cL_dearest 25 = .ok (.iconst 0, 1) := by decide +kernel
theorem dL_dearest_26 : decode cL_dearest 26 = .ok (.ireturn, 1) := by decide +kernel
theorem dL_weight_0 : decode cL_weight 0 = .ok (.aload_n 3, 1) := by decide +kernel
theorem dL_weight_1 : decode cL_weight 1 = .ok (.iconst 0, 1) := by decide +kernel
theorem dL_weight_2 : decode cL_weight 2 = .ok (.aload_n 0, 1) := by decide +kernel
theorem dL_weight_3 : decode cL_weight 3 = .ok (.iload_n 1, 1) := by decide +kernel
theorem dL_weight_4 : decode cL_weight 4 = .ok (.iload_n 2, 1) := by decide +kernel
theorem dL_weight_5 : decode cL_weight 5 = .ok (.invokevirtual 114, 3) := by decide +kernel
theorem dL_weight_8 : decode cL_weight 8 = .ok (.dastore, 1) := by decide +kernel
theorem dL_weight_9 : decode cL_weight 9 = .ok (.goto 11, 3) := by decide +kernel
theorem dL_weight_12 : decode cL_weight 12 = .ok (.astore 4, 2) := by decide +kernel
theorem dL_weight_14 : decode cL_weight 14 = .ok (.iconst 1, 1) := by decide +kernel
theorem dL_weight_15 : decode cL_weight 15 = .ok (.ireturn, 1) := by decide +kernel
theorem dL_weight_16 : decode cL_weight 16 = .ok (.astore 4, 2) := by decide +kernel
theorem dL_weight_18 : decode cL_weight 18 = .ok (.iconst 2, 1) := by decide +kernel
theorem dL_weight_19 : decode cL_weight 19 = .ok (.ireturn, 1) := by decide +kernel
theorem dL_weight_20 : decode cL_weight 20 = .ok (.iconst 0, 1) := by decide +kernel
theorem dL_weight_21 : decode cL_weight 21 = .ok (.ireturn, 1) := by decide +kernel
theorem dL_weightBits_0 : decode cL_weightBits 0 = .ok (.aload_n 3, 1) := by decide +kernel
theorem dL_weightBits_1 : decode cL_weightBits 1 = .ok (.iconst 0, 1) := by decide +kernel
theorem dL_weightBits_2 : decode cL_weightBits 2 = .ok (.aload_n 0, 1) := by decide +kernel
theorem dL_weightBits_3 : decode cL_weightBits 3 = .ok (.iload_n 1, 1) := by decide +kernel
theorem dL_weightBits_4 : decode cL_weightBits 4 = .ok (.iload_n 2, 1) := by decide +kernel
theorem dL_weightBits_5 : decode cL_weightBits 5 = .ok (.invokevirtual 118, 3) := by decide +kernel
theorem dL_weightBits_8 : decode cL_weightBits 8 = .ok (.lastore, 1) := by decide +kernel
theorem dL_weightBits_9 : decode cL_weightBits 9 = .ok (.goto 11, 3) := by decide +kernel
theorem dL_weightBits_12 : decode cL_weightBits 12 = .ok (.astore 4, 2) := by decide +kernel
theorem dL_weightBits_14 : decode cL_weightBits 14 = .ok (.iconst 1, 1) := by decide +kernel
theorem dL_weightBits_15 : decode cL_weightBits 15 = .ok (.ireturn, 1) := by decide +kernel
theorem dL_weightBits_16 : decode cL_weightBits 16 = .ok (.astore 4, 2) := by decide +kernel
theorem dL_weightBits_18 : decode cL_weightBits 18 = .ok (.iconst 2, 1) := by decide +kernel
theorem dL_weightBits_19 : decode cL_weightBits 19 = .ok (.ireturn, 1) := by decide +kernel
theorem dL_weightBits_20 : decode cL_weightBits 20 = .ok (.iconst 0, 1) := by decide +kernel
theorem dL_weightBits_21 : decode cL_weightBits 21 = .ok (.ireturn, 1) := by decide +kernel
theorem dL_markCosts_0 : decode cL_markCosts 0 = .ok (.aload_n 2, 1) := by decide +kernel
theorem dL_markCosts_1 : decode cL_markCosts 1 = .ok (.iconst 0, 1) := by decide +kernel
theorem dL_markCosts_2 : decode cL_markCosts 2 = .ok (.aload_n 0, 1) := by decide +kernel
theorem dL_markCosts_3 : decode cL_markCosts 3 = .ok (.iload_n 1, 1) := by decide +kernel
theorem dL_markCosts_4 : decode cL_markCosts 4 = .ok (.invokevirtual 122, 3) := by decide +kernel
theorem dL_markCosts_7 : decode cL_markCosts 7 = .ok (.i2l, 1) := by decide +kernel
theorem dL_markCosts_8 : decode cL_markCosts 8 = .ok (.lastore, 1) := by decide +kernel
theorem dL_markCosts_9 : decode cL_markCosts 9 = .ok (.goto 6, 3) := by decide +kernel
theorem dL_markCosts_12 : decode cL_markCosts 12 = .ok (.astore_n 3, 1) := by decide +kernel
theorem dL_markCosts_13 : decode cL_markCosts 13 = .ok (.iconst 1, 1) := by decide +kernel
theorem dL_markCosts_14 : decode cL_markCosts 14 = .ok (.ireturn, 1) := by decide +kernel
theorem dL_markCosts_15 : decode cL_markCosts 15 = .ok (.iconst 0, 1) := by decide +kernel
theorem dL_markCosts_16 : decode cL_markCosts 16 = .ok (.ireturn, 1) := by decide +kernel
theorem dL_costChange_0 : decode cL_costChange 0 = .ok (.aload_n 3, 1) := by decide +kernel
theorem dL_costChange_1 : decode cL_costChange 1 = .ok (.iconst 0, 1) := by decide +kernel
theorem dL_costChange_2 : decode cL_costChange 2 = .ok (.aload_n 0, 1) := by decide +kernel
theorem dL_costChange_3 : decode cL_costChange 3 = .ok (.iload_n 1, 1) := by decide +kernel
theorem dL_costChange_4 : decode cL_costChange 4 = .ok (.iload_n 2, 1) := by decide +kernel
theorem dL_costChange_5 : decode cL_costChange 5 = .ok (.invokevirtual 125, 3) := by decide +kernel
theorem dL_costChange_8 : decode cL_costChange 8 = .ok (.f2d, 1) := by decide +kernel
theorem dL_costChange_9 : decode cL_costChange 9 = .ok (.dastore, 1) := by decide +kernel
theorem dL_costChange_10 : decode cL_costChange 10 = .ok (.goto 15, 3) := by decide +kernel
theorem dL_costChange_13 : decode cL_costChange 13 = .ok (.astore 4, 2) := by decide +kernel
theorem dL_costChange_15 : decode cL_costChange 15 = .ok (.iconst 1, 1) := by decide +kernel
theorem dL_costChange_16 : decode cL_costChange 16 = .ok (.ireturn, 1) := by decide +kernel
theorem dL_costChange_17 : decode cL_costChange 17 = .ok (.astore 4, 2) := by decide +kernel
theorem dL_costChange_19 : decode cL_costChange 19 = .ok (.iconst 2, 1) := by decide +kernel
theorem dL_costChange_20 : decode cL_costChange 20 = .ok (.ireturn, 1) := by decide +kernel
theorem dL_costChange_21 : decode cL_costChange 21 = .ok (.astore 4, 2) := by decide +kernel
theorem dL_costChange_23 : decode cL_costChange 23 = .ok (.iconst 3, 1) := by decide +kernel
theorem dL_costChange_24 : decode cL_costChange 24 = .ok (.ireturn, 1) := by decide +kernel
theorem dL_costChange_25 : decode cL_costChange 25 = .ok (.iconst 0, 1) := by decide +kernel
theorem dL_costChange_26 : decode cL_costChange 26 = .ok (.ireturn, 1) := by decide +kernel
theorem dL_order_0 : decode cL_order 0 = .ok (.aload 4, 2) := by decide +kernel
theorem dL_order_2 : decode cL_order 2 = .ok (.iconst 0, 1) := by decide +kernel
theorem dL_order_3 : decode cL_order 3 = .ok (.aload_n 0, 1) := by decide +kernel
theorem dL_order_4 : decode cL_order 4 = .ok (.iload_n 1, 1) := by decide +kernel
theorem dL_order_5 : decode cL_order 5 = .ok (.iload_n 2, 1) := by decide +kernel
theorem dL_order_6 : decode cL_order 6 = .ok (.iload_n 3, 1) := by decide +kernel
theorem dL_order_7 : decode cL_order 7 = .ok (.invokevirtual 128, 3) := by decide +kernel
theorem dL_order_10 : decode cL_order 10 = .ok (.i2l, 1) := by decide +kernel
theorem dL_order_11 : decode cL_order 11 = .ok (.lastore, 1) := by decide +kernel
theorem dL_order_12 : decode cL_order 12 = .ok (.goto 15, 3) := by decide +kernel
theorem dL_order_15 : decode cL_order 15 = .ok (.astore 5, 2) := by decide +kernel
theorem dL_order_17 : decode cL_order 17 = .ok (.iconst 1, 1) := by decide +kernel
theorem dL_order_18 : decode cL_order 18 = .ok (.ireturn, 1) := by decide +kernel
theorem dL_order_19 : decode cL_order 19 = .ok (.astore 5, 2) := by decide +kernel
theorem dL_order_21 : decode cL_order 21 = .ok (.iconst 2, 1) := by decide +kernel
theorem dL_order_22 : decode cL_order 22 = .ok (.ireturn, 1) := by decide +kernel
theorem dL_order_23 : decode cL_order 23 = .ok (.astore 5, 2) := by decide +kernel
theorem dL_order_25 : decode cL_order 25 = .ok (.iconst 3, 1) := by decide +kernel
theorem dL_order_26 : decode cL_order 26 = .ok (.ireturn, 1) := by decide +kernel
theorem dL_order_27 : decode cL_order 27 = .ok (.iconst 0, 1) := by decide +kernel
theorem dL_order_28 : decode cL_order 28 = .ok (.ireturn, 1) := by decide +kernel
theorem dL_cancel_0 : decode cL_cancel 0 = .ok (.aload_n 2, 1) := by decide +kernel
theorem dL_cancel_1 : decode cL_cancel 1 = .ok (.iconst 0, 1) := by decide +kernel
theorem dL_cancel_2 : decode cL_cancel 2 = .ok (.aload_n 0, 1) := by decide +kernel
theorem dL_cancel_3 : decode cL_cancel 3 = .ok (.iload_n 1, 1) := by decide +kernel
theorem dL_cancel_4 : decode cL_cancel 4 = .ok (.invokevirtual 131, 3) := by decide +kernel
theorem dL_cancel_7 : decode cL_cancel 7 = .ok (.i2l, 1) := by decide +kernel
theorem dL_cancel_8 : decode cL_cancel 8 = .ok (.lastore, 1) := by decide +kernel
theorem dL_cancel_9 : decode cL_cancel 9 = .ok (.goto 9, 3) := by decide +kernel
theorem dL_cancel_12 : decode cL_cancel 12 = .ok (.astore_n 3, 1) := by decide +kernel
theorem dL_cancel_13 : decode cL_cancel 13 = .ok (.iconst 1, 1) := by decide +kernel
theorem dL_cancel_14 : decode cL_cancel 14 = .ok (.ireturn, 1) := by decide +kernel
theorem dL_cancel_15 : decode cL_cancel 15 = .ok (.astore_n 3, 1) := by decide +kernel
theorem dL_cancel_16 : decode cL_cancel 16 = .ok (.iconst 2, 1) := by decide +kernel
theorem dL_cancel_17 : decode cL_cancel 17 = .ok (.ireturn, 1) := by decide +kernel
theorem dL_cancel_18 : decode cL_cancel 18 = .ok (.iconst 0, 1) := by decide +kernel
theorem dL_cancel_19 : decode cL_cancel 19 = .ok (.ireturn, 1) := by decide +kernel
theorem dL_orderCost_0 : decode cL_orderCost 0 = .ok (.aload_n 2, 1) := by decide +kernel
theorem dL_orderCost_1 : decode cL_orderCost 1 = .ok (.iconst 0, 1) := by decide +kernel
theorem dL_orderCost_2 : decode cL_orderCost 2 = .ok (.aload_n 0, 1) := by decide +kernel
theorem dL_orderCost_3 : decode cL_orderCost 3 = .ok (.iload_n 1, 1) := by decide +kernel
theorem dL_orderCost_4 : decode cL_orderCost 4 = .ok (.invokevirtual 134, 3) := by decide +kernel
theorem dL_orderCost_7 : decode cL_orderCost 7 = .ok (.f2d, 1) := by decide +kernel
theorem dL_orderCost_8 : decode cL_orderCost 8 = .ok (.dastore, 1) := by decide +kernel
theorem dL_orderCost_9 : decode cL_orderCost 9 = .ok (.goto 6, 3) := by decide +kernel
theorem dL_orderCost_12 : decode cL_orderCost 12 = .ok (.astore_n 3, 1) := by decide +kernel
theorem dL_orderCost_13 : decode cL_orderCost 13 = .ok (.iconst 1, 1) := by decide +kernel
theorem dL_orderCost_14 : decode cL_orderCost 14 = .ok (.ireturn, 1) := by decide +kernel
theorem dL_orderCost_15 : decode cL_orderCost 15 = .ok (.iconst 0, 1) := by decide +kernel
theorem dL_orderCost_16 : decode cL_orderCost 16 = .ok (.ireturn, 1) := by decide +kernel
theorem dL_need_0 : decode cL_need 0 = .ok (.aload_n 2, 1) := by decide +kernel
theorem dL_need_1 : decode cL_need 1 = .ok (.iconst 0, 1) := by decide +kernel
theorem dL_need_2 : decode cL_need 2 = .ok (.aload_n 0, 1) := by decide +kernel
theorem dL_need_3 : decode cL_need 3 = .ok (.iload_n 1, 1) := by decide +kernel
theorem dL_need_4 : decode cL_need 4 = .ok (.invokevirtual 138, 3) := by decide +kernel
theorem dL_need_7 : decode cL_need 7 = .ok (.lastore, 1) := by decide +kernel
theorem dL_need_8 : decode cL_need 8 = .ok (.goto 6, 3) := by decide +kernel
theorem dL_need_11 : decode cL_need 11 = .ok (.astore_n 3, 1) := by decide +kernel
theorem dL_need_12 : decode cL_need 12 = .ok (.iconst 1, 1) := by decide +kernel
theorem dL_need_13 : decode cL_need 13 = .ok (.ireturn, 1) := by decide +kernel
theorem dL_need_14 : decode cL_need 14 = .ok (.iconst 0, 1) := by decide +kernel
theorem dL_need_15 : decode cL_need 15 = .ok (.ireturn, 1) := by decide +kernel
