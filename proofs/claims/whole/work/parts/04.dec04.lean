theorem dX9_phrase_221 : decode cX9_phrase 221 = .ok (.getfield 37, 3) := by decide +kernel
theorem dX9_phrase_224 : decode cX9_phrase 224 = .ok (.invokevirtual 78, 3) := by decide +kernel
theorem dX9_phrase_227 : decode cX9_phrase 227 = .ok (.goto 11, 3) := by decide +kernel
theorem dX9_phrase_230 : decode cX9_phrase 230 = .ok (.aload_n 0, 1) := by decide +kernel
theorem dX9_phrase_231 : decode cX9_phrase 231 = .ok (.getfield 37, 3) := by decide +kernel
theorem dX9_phrase_234 : decode cX9_phrase 234 = .ok (.iload_n 2, 1) := by decide +kernel
theorem dX9_phrase_235 : decode cX9_phrase 235 = .ok (.invokevirtual 386, 3) := by decide +kernel
theorem dX9_phrase_238 : decode cX9_phrase 238 = .ok (.ireturn, 1) := by decide +kernel
theorem dX9_isShort_0 : decode cX9_isShort 0 = .ok (.iload_n 0, 1) := by decide +kernel
theorem dX9_isShort_1 : decode cX9_isShort 1 = .ok (.ldc_w 398, 3) := by decide +kernel
theorem dX9_isShort_4 : decode cX9_isShort 4 = .ok (.if_icmp .lt 14, 3) := by decide +kernel
theorem dX9_isShort_7 : decode cX9_isShort 7 = .ok (.iload_n 0, 1) := by decide +kernel
theorem dX9_isShort_8 : decode cX9_isShort 8 = .ok (.ldc_w 399, 3) := by decide +kernel
theorem dX9_isShort_11 : decode cX9_isShort 11 = .ok (.if_icmp .gt 7, 3) := by decide +kernel
theorem dX9_isShort_14 : decode cX9_isShort 14 = .ok (.iconst 1, 1) := by decide +kernel
theorem dX9_isShort_15 : decode cX9_isShort 15 = .ok (.goto 4, 3) := by decide +kernel
theorem dX9_isShort_18 : decode cX9_isShort 18 = .ok (.iconst 0, 1) := by decide +kernel
theorem dX9_isShort_19 : decode cX9_isShort 19 = .ok (.ireturn, 1) := by decide +kernel
theorem dX9_keeps_0 : decode cX9_keeps 0 = .ok (.aload_n 0, 1) := by decide +kernel
theorem dX9_keeps_1 : decode cX9_keeps 1 = .ok (.getfield 16, 3) := by decide +kernel
theorem dX9_keeps_4 : decode cX9_keeps 4 = .ok (.aload_n 0, 1) := by decide +kernel
theorem dX9_keeps_5 : decode cX9_keeps 5 = .ok (.getfield 10, 3) := by decide +kernel
theorem dX9_keeps_8 : decode cX9_keeps 8 = .ok (.invokevirtual 400, 3) := by decide +kernel
theorem dX9_keeps_11 : decode cX9_keeps 11 = .ok (.aload_n 0, 1) := by decide +kernel
theorem dX9_keeps_12 : decode cX9_keeps 12 = .ok (.iconst 1, 1) := by decide +kernel
theorem dX9_keeps_13 : decode cX9_keeps 13 = .ok (.putfield 19, 3) := by decide +kernel
theorem dX9_keeps_16 : decode cX9_keeps 16 = .ok (.iconst 1, 1) := by decide +kernel
theorem dX9_keeps_17 : decode cX9_keeps 17 = .ok (.ireturn, 1) := by decide +kernel
theorem dX9_back_0 : decode cX9_back 0 = .ok (.aload_n 0, 1) := by decide +kernel
theorem dX9_back_1 : decode cX9_back 1 = .ok (.getfield 19, 3) := by decide +kernel
theorem dX9_back_4 : decode cX9_back 4 = .ok (.ifCond .ne 5, 3) := by decide +kernel
theorem dX9_back_7 : decode cX9_back 7 = .ok (.iconst 0, 1) := by decide +kernel
theorem dX9_back_8 : decode cX9_back 8 = .ok (.ireturn, 1) := by decide +kernel
theorem dX9_back_9 : decode cX9_back 9 = .ok (.aload_n 0, 1) := by decide +kernel
theorem dX9_back_10 : decode cX9_back 10 = .ok (.getfield 10, 3) := by decide +kernel
theorem dX9_back_13 : decode cX9_back 13 = .ok (.aload_n 0, 1) := by decide +kernel
theorem dX9_back_14 : decode cX9_back 14 = .ok (.getfield 16, 3) := by decide +kernel
theorem dX9_back_17 : decode cX9_back 17 = .ok (.invokevirtual 400, 3) := by decide +kernel
theorem dX9_back_20 : decode cX9_back 20 = .ok (.iconst 1, 1) := by decide +kernel
theorem dX9_back_21 : decode cX9_back 21 = .ok (.ireturn, 1) := by decide +kernel
theorem dX9_count_0 : decode cX9_count 0 = .ok (.iload_n 1, 1) := by decide +kernel
theorem dX9_count_1 : decode cX9_count 1 = .ok (.tableswitch 59 0 3 #[31, 37, 43, 51], 31) := by decide +kernel
theorem dX9_count_32 : decode cX9_count 32 = .ok (.aload_n 0, 1) := by decide +kernel
theorem dX9_count_33 : decode cX9_count 33 = .ok (.iconst 0, 1) := by decide +kernel
theorem dX9_count_34 : decode cX9_count 34 = .ok (.invokevirtual 404, 3) := by decide +kernel
theorem dX9_count_37 : decode cX9_count 37 = .ok (.ireturn, 1) := by decide +kernel
theorem dX9_count_38 : decode cX9_count 38 = .ok (.aload_n 0, 1) := by decide +kernel
theorem dX9_count_39 : decode cX9_count 39 = .ok (.iconst 1, 1) := by decide +kernel
theorem dX9_count_40 : decode cX9_count 40 = .ok (.invokevirtual 404, 3) := by decide +kernel
theorem dX9_count_43 : decode cX9_count 43 = .ok (.ireturn, 1) := by decide +kernel
theorem dX9_count_44 : decode cX9_count 44 = .ok (.aload_n 0, 1) := by decide +kernel
theorem dX9_count_45 : decode cX9_count 45 = .ok (.getfield 26, 3) := by decide +kernel
theorem dX9_count_48 : decode cX9_count 48 = .ok (.invokevirtual 407, 3) := by decide +kernel
theorem dX9_count_51 : decode cX9_count 51 = .ok (.ireturn, 1) := by decide +kernel
theorem dX9_count_52 : decode cX9_count 52 = .ok (.aload_n 0, 1) := by decide +kernel
theorem dX9_count_53 : decode cX9_count 53 = .ok (.getfield 33, 3) := by decide +kernel
theorem dX9_count_56 : decode cX9_count 56 = .ok (.invokevirtual 78, 3) := by decide +kernel
theorem dX9_count_59 : decode cX9_count 59 = .ok (.ireturn, 1) := by decide +kernel
theorem dX9_count_60 : decode cX9_count 60 = .ok (.iconst (-1), 1) := by decide +kernel
theorem dX9_count_61 : decode cX9_count 61 = .ok (.ireturn, 1) := by decide +kernel
theorem dX9_usedSlots_0 : decode cX9_usedSlots 0 = .ok (.iconst 0, 1) := by decide +kernel
theorem dX9_usedSlots_1 : decode cX9_usedSlots 1 = .ok (.istore_n 2, 1) := by decide +kernel
theorem dX9_usedSlots_2 : decode cX9_usedSlots 2 = .ok (.iconst 0, 1) := by decide +kernel
theorem dX9_usedSlots_3 : decode cX9_usedSlots 3 = .ok (.istore_n 3, 1) := by decide +kernel
theorem dX9_usedSlots_4 : decode cX9_usedSlots 4 = .ok (.iload_n 3, 1) := by decide +kernel
theorem dX9_usedSlots_5 : decode cX9_usedSlots 5 = .ok (.bipush 8, 2) := by decide +kernel
theorem dX9_usedSlots_7 : decode cX9_usedSlots 7 = .ok (.if_icmp .ge 85, 3) := by decide +kernel
theorem dX9_usedSlots_10 : decode cX9_usedSlots 10 = .ok (.iload_n 1, 1) := by decide +kernel
theorem dX9_usedSlots_11 : decode cX9_usedSlots 11 = .ok (.ifCond .eq 44, 3) := by decide +kernel
theorem dX9_usedSlots_14 : decode cX9_usedSlots 14 = .ok (.aload_n 0, 1) := by decide +kernel
theorem dX9_usedSlots_15 : decode cX9_usedSlots 15 = .ok (.getfield 10, 3) := by decide +kernel
theorem dX9_usedSlots_18 : decode cX9_usedSlots 18 = .ok (.iload_n 3, 1) := by decide +kernel
theorem dX9_usedSlots_19 : decode cX9_usedSlots 19 = .ok (.invokevirtual 161, 3) := by decide +kernel
theorem dX9_usedSlots_22 : decode cX9_usedSlots 22 = .ok (.ifCond .ne 25, 3) := by decide +kernel
theorem dX9_usedSlots_25 : decode cX9_usedSlots 25 = .ok (.aload_n 0, 1) := by decide +kernel
theorem dX9_usedSlots_26 : decode cX9_usedSlots 26 = .ok (.getfield 10, 3) := by decide +kernel
theorem dX9_usedSlots_29 : decode cX9_usedSlots 29 = .ok (.iload_n 3, 1) := by decide +kernel
theorem dX9_usedSlots_30 : decode cX9_usedSlots 30 = .ok (.invokevirtual 164, 3) := by decide +kernel
theorem dX9_usedSlots_33 : decode cX9_usedSlots 33 = .ok (.ifCond .ne 14, 3) := by decide +kernel
theorem dX9_usedSlots_36 : decode cX9_usedSlots 36 = .ok (.aload_n 0, 1) := by decide +kernel
theorem dX9_usedSlots_37 : decode cX9_usedSlots 37 = .ok (.getfield 10, 3) := by decide +kernel
theorem dX9_usedSlots_40 : decode cX9_usedSlots 40 = .ok (.iload_n 3, 1) := by decide +kernel
theorem dX9_usedSlots_41 : decode cX9_usedSlots 41 = .ok (.invokevirtual 167, 3) := by decide +kernel
theorem dX9_usedSlots_44 : decode cX9_usedSlots 44 = .ok (.ifCond .eq 7, 3) := by decide +kernel
theorem dX9_usedSlots_47 : decode cX9_usedSlots 47 = .ok (.iconst 1, 1) := by decide +kernel
theorem dX9_usedSlots_48 : decode cX9_usedSlots 48 = .ok (.goto 25, 3) := by decide +kernel
theorem dX9_usedSlots_51 : decode cX9_usedSlots 51 = .ok (.iconst 0, 1) := by decide +kernel
theorem dX9_usedSlots_52 : decode cX9_usedSlots 52 = .ok (.goto 21, 3) := by decide +kernel
theorem dX9_usedSlots_55 : decode cX9_usedSlots 55 = .ok (.aload_n 0, 1) := by decide +kernel
theorem dX9_usedSlots_56 : decode cX9_usedSlots 56 = .ok (.getfield 10, 3) := by decide +kernel
theorem dX9_usedSlots_59 : decode cX9_usedSlots 59 = .ok (.iload_n 3, 1) := by decide +kernel
theorem dX9_usedSlots_60 : decode cX9_usedSlots 60 = .ok (.invokevirtual 212, 3) := by decide +kernel
theorem dX9_usedSlots_63 : decode cX9_usedSlots 63 = .ok (.lconst 0, 1) := by decide +kernel
theorem dX9_usedSlots_64 : decode cX9_usedSlots 64 = .ok (.lcmp, 1) := by decide +kernel
theorem dX9_usedSlots_65 : decode cX9_usedSlots 65 = .ok (.ifCond .eq 7, 3) := by decide +kernel
theorem dX9_usedSlots_68 : decode cX9_usedSlots 68 = .ok (.iconst 1, 1) := by decide +kernel
theorem dX9_usedSlots_69 : decode cX9_usedSlots 69 = .ok (.goto 4, 3) := by decide +kernel
theorem dX9_usedSlots_72 : decode cX9_usedSlots 72 = .ok (.iconst 0, 1) := by decide +kernel
theorem dX9_usedSlots_73 : decode cX9_usedSlots 73 = .ok (.istore 4, 2) := by decide +kernel
theorem dX9_usedSlots_75 : decode cX9_usedSlots 75 = .ok (.iload 4, 2) := by decide +kernel
theorem dX9_usedSlots_77 : decode cX9_usedSlots 77 = .ok (.ifCond .eq 9, 3) := by decide +kernel
theorem dX9_usedSlots_80 : decode cX9_usedSlots 80 = .ok (.iload_n 2, 1) := by decide +kernel
theorem dX9_usedSlots_81 : decode cX9_usedSlots 81 = .ok (.iconst 1, 1) := by decide +kernel
theorem dX9_usedSlots_82 : decode cX9_usedSlots 82 = .ok (.iload_n 3, 1) := by decide +kernel
theorem dX9_usedSlots_83 : decode cX9_usedSlots 83 = .ok (.ishl, 1) := by decide +kernel
theorem dX9_usedSlots_84 : decode cX9_usedSlots 84 = .ok (.ior, 1) := by decide +kernel
theorem dX9_usedSlots_85 : decode cX9_usedSlots 85 = .ok (.istore_n 2, 1) := by decide +kernel
theorem dX9_usedSlots_86 : decode cX9_usedSlots 86 = .ok (.iinc 3 1, 3) := by decide +kernel
theorem dX9_usedSlots_89 : decode cX9_usedSlots 89 = .ok (.goto (-85), 3) := by decide +kernel
theorem dX9_usedSlots_92 : decode cX9_usedSlots 92 = .ok (.iload_n 2, 1) := by decide +kernel
theorem dX9_usedSlots_93 : decode cX9_usedSlots 93 = .ok (.ireturn, 1) := by decide +kernel
theorem dX9_row_0 : decode cX9_row 0 = .ok (.iload_n 1, 1) := by decide +kernel
theorem dX9_row_1 : decode cX9_row 1 = .ok (.ifCond .lt 14, 3) := by decide +kernel
theorem dX9_row_4 : decode cX9_row 4 = .ok (.iload_n 1, 1) := by decide +kernel
theorem dX9_row_5 : decode cX9_row 5 = .ok (.aload_n 0, 1) := by decide +kernel
theorem dX9_row_6 : decode cX9_row 6 = .ok (.getfield 26, 3) := by decide +kernel
theorem dX9_row_9 : decode cX9_row 9 = .ok (.invokevirtual 407, 3) := by decide +kernel
theorem dX9_row_12 : decode cX9_row 12 = .ok (.if_icmp .lt 14, 3) := by decide +kernel
theorem dX9_row_15 : decode cX9_row 15 = .ok (.new 408, 3) := by decide +kernel
theorem dX9_row_18 : decode cX9_row 18 = .ok (.dup, 1) := by decide +kernel
theorem dX9_row_19 : decode cX9_row 19 = .ok (.ldc_w 410, 3) := by decide +kernel
theorem dX9_row_22 : decode cX9_row 22 = .ok (.invokespecial 412, 3) := by decide +kernel
theorem dX9_row_25 : decode cX9_row 25 = .ok (.athrow, 1) := by decide +kernel
theorem dX9_row_26 : decode cX9_row 26 = .ok (.aload_n 0, 1) := by decide +kernel
theorem dX9_row_27 : decode cX9_row 27 = .ok (.getfield 26, 3) := by decide +kernel
theorem dX9_row_30 : decode cX9_row 30 = .ok (.iload_n 1, 1) := by decide +kernel
theorem dX9_row_31 : decode cX9_row 31 = .ok (.invokevirtual 263, 3) := by decide +kernel
theorem dX9_row_34 : decode cX9_row 34 = .ok (.lreturn, 1) := by decide +kernel
theorem dX9_isSlot_0 : decode cX9_isSlot 0 = .ok (.iload_n 0, 1) := by decide +kernel
theorem dX9_isSlot_1 : decode cX9_isSlot 1 = .ok (.ifCond .lt 13, 3) := by decide +kernel
theorem dX9_isSlot_4 : decode cX9_isSlot 4 = .ok (.iload_n 0, 1) := by decide +kernel
theorem dX9_isSlot_5 : decode cX9_isSlot 5 = .ok (.bipush 8, 2) := by decide +kernel
theorem dX9_isSlot_7 : decode cX9_isSlot 7 = .ok (.if_icmp .ge 7, 3) := by decide +kernel
theorem dX9_isSlot_10 : decode cX9_isSlot 10 = .ok (.iconst 1, 1) := by decide +kernel
theorem dX9_isSlot_11 : decode cX9_isSlot 11 = .ok (.goto 4, 3) := by decide +kernel
theorem dX9_isSlot_14 : decode cX9_isSlot 14 = .ok (.iconst 0, 1) := by decide +kernel
theorem dX9_isSlot_15 : decode cX9_isSlot 15 = .ok (.ireturn, 1) := by decide +kernel
theorem dX9_isDay_0 : decode cX9_isDay 0 = .ok (.iload_n 0, 1) := by decide +kernel
theorem dX9_isDay_1 : decode cX9_isDay 1 = .ok (.ifCond .lt 14, 3) := by decide +kernel
theorem dX9_isDay_4 : decode cX9_isDay 4 = .ok (.iload_n 0, 1) := by decide +kernel
theorem dX9_isDay_5 : decode cX9_isDay 5 = .ok (.ldc_w 298, 3) := by decide +kernel
theorem dX9_isDay_8 : decode cX9_isDay 8 = .ok (.if_icmp .gt 7, 3) := by decide +kernel
theorem dX9_isDay_11 : decode cX9_isDay 11 = .ok (.iconst 1, 1) := by decide +kernel
theorem dX9_isDay_12 : decode cX9_isDay 12 = .ok (.goto 4, 3) := by decide +kernel
theorem dX9_isDay_15 : decode cX9_isDay 15 = .ok (.iconst 0, 1) := by decide +kernel
theorem dX9_isDay_16 : decode cX9_isDay 16 = .ok (.ireturn, 1) := by decide +kernel
theorem dX9_isLaw_0 : decode cX9_isLaw 0 = .ok (.iload_n 0, 1) := by decide +kernel
theorem dX9_isLaw_1 : decode cX9_isLaw 1 = .ok (.ifCond .lt 12, 3) := by decide +kernel
theorem dX9_isLaw_4 : decode cX9_isLaw 4 = .ok (.iload_n 0, 1) := by decide +kernel
theorem dX9_isLaw_5 : decode cX9_isLaw 5 = .ok (.iconst 3, 1) := by decide +kernel
theorem dX9_isLaw_6 : decode cX9_isLaw 6 = .ok (.if_icmp .gt 7, 3) := by decide +kernel
theorem dX9_isLaw_9 : decode cX9_isLaw 9 = .ok (.iconst 1, 1) := by decide +kernel
theorem dX9_isLaw_10 : decode cX9_isLaw 10 = .ok (.goto 4, 3) := by decide +kernel
theorem dX9_isLaw_13 : decode cX9_isLaw 13 = .ok (.iconst 0, 1) := by decide +kernel
theorem dX9_isLaw_14 : decode cX9_isLaw 14 = .ok (.ireturn, 1) := by decide +kernel
theorem dX9_isOrder_0 : decode cX9_isOrder 0 = .ok (.iload_n 0, 1) := by decide +kernel
theorem dX9_isOrder_1 : decode cX9_isOrder 1 = .ok (.ifCond .eq 8, 3) := by decide +kernel
theorem dX9_isOrder_4 : decode cX9_isOrder 4 = .ok (.iload_n 0, 1) := by decide +kernel
theorem dX9_isOrder_5 : decode cX9_isOrder 5 = .ok (.iconst 1, 1) := by decide +kernel
theorem dX9_isOrder_6 : decode cX9_isOrder 6 = .ok (.if_icmp .ne 7, 3) := by decide +kernel
theorem dX9_isOrder_9 : decode cX9_isOrder 9 = .ok (.iconst 1, 1) := by decide +kernel
theorem dX9_isOrder_10 : decode cX9_isOrder 10 = .ok (.goto 4, 3) := by decide +kernel
theorem dX9_isOrder_13 : decode cX9_isOrder 13 = .ok (.iconst 0, 1) := by decide +kernel
theorem dX9_isOrder_14 : decode cX9_isOrder 14 = .ok (.ireturn, 1) := by decide +kernel
theorem dX9_isWeekday_0 : decode cX9_isWeekday 0 = .ok (.iload_n 0, 1) := by decide +kernel
theorem dX9_isWeekday_1 : decode cX9_isWeekday 1 = .ok (.ifCond .lt 13, 3) := by decide +kernel
theorem dX9_isWeekday_4 : decode cX9_isWeekday 4 = .ok (.iload_n 0, 1) := by decide +kernel
theorem dX9_isWeekday_5 : decode cX9_isWeekday 5 = .ok (.bipush 6, 2) := by decide +kernel
theorem dX9_isWeekday_7 : decode cX9_isWeekday 7 = .ok (.if_icmp .gt 7, 3) := by decide +kernel
theorem dX9_isWeekday_10 : decode cX9_isWeekday 10 = .ok (.iconst 1, 1) := by decide +kernel
theorem dX9_isWeekday_11 : decode cX9_isWeekday 11 = .ok (.goto 4, 3) := by decide +kernel
theorem dX9_isWeekday_14 : decode cX9_isWeekday 14 = .ok (.iconst 0, 1) := by decide +kernel
theorem dX9_isWeekday_15 : decode cX9_isWeekday 15 = .ok (.ireturn, 1) := by decide +kernel
theorem dX9_areBounded_0 : decode cX9_areBounded 0 = .ok (.lload_n 0, 1) := by decide +kernel
theorem dX9_areBounded_1 : decode cX9_areBounded 1 = .ok (.invokestatic 415, 3) := by decide +kernel
theorem dX9_areBounded_4 : decode cX9_areBounded 4 = .ok (.ifCond .eq 22, 3) := by decide +kernel
theorem dX9_areBounded_7 : decode cX9_areBounded 7 = .ok (.lload_n 2, 1) := by decide +kernel
theorem dX9_areBounded_8 : decode cX9_areBounded 8 = .ok (.invokestatic 415, 3) := by decide +kernel
theorem dX9_areBounded_11 : decode cX9_areBounded 11 = .ok (.ifCond .eq 15, 3) := by decide +kernel
theorem dX9_areBounded_14 : decode cX9_areBounded 14 = .ok (.lload 4, 2) := by decide +kernel
theorem dX9_areBounded_16 : decode cX9_areBounded 16 = .ok (.invokestatic 415, 3) := by decide +kernel
theorem dX9_areBounded_19 : decode cX9_areBounded 19 = .ok (.ifCond .eq 7, 3) := by decide +kernel
theorem dX9_areBounded_22 : decode cX9_areBounded 22 = .ok (.iconst 1, 1) := by decide +kernel
theorem dX9_areBounded_23 : decode cX9_areBounded 23 = .ok (.goto 4, 3) := by decide +kernel
theorem dX9_areBounded_26 : decode cX9_areBounded 26 = .ok (.iconst 0, 1) := by decide +kernel
theorem dX9_areBounded_27 : decode cX9_areBounded 27 = .ok (.ireturn, 1) := by decide +kernel
theorem dX9_isBounded_0 : decode cX9_isBounded 0 = .ok (.lload_n 0, 1) := by decide +kernel
theorem dX9_isBounded_1 : decode cX9_isBounded 1 = .ok (.ldc2_w 419, 3) := by decide +kernel
theorem dX9_isBounded_4 : decode cX9_isBounded 4 = .ok (.lcmp, 1) := by decide +kernel
theorem dX9_isBounded_5 : decode cX9_isBounded 5 = .ok (.ifCond .lt 15, 3) := by decide +kernel
theorem dX9_isBounded_8 : decode cX9_isBounded 8 = .ok (.lload_n 0, 1) := by decide +kernel
theorem dX9_isBounded_9 : decode cX9_isBounded 9 = .ok (.ldc2_w 421, 3) := by decide +kernel
theorem dX9_isBounded_12 : decode cX9_isBounded 12 = .ok (.lcmp, 1) := by decide +kernel
theorem dX9_isBounded_13 : decode cX9_isBounded 13 = .ok (.ifCond .gt 7, 3) := by decide +kernel
theorem dX9_isBounded_16 : decode cX9_isBounded 16 = .ok (.iconst 1, 1) := by decide +kernel
theorem dX9_isBounded_17 : decode cX9_isBounded 17 = .ok (.goto 4, 3) := by decide +kernel
theorem dX9_isBounded_20 : decode cX9_isBounded 20 = .ok (.iconst 0, 1) := by decide +kernel
theorem dX9_isBounded_21 : decode cX9_isBounded 21 = .ok (.ireturn, 1) := by decide +kernel
theorem dX9_instantOf_0 : decode cX9_instantOf 0 = .ok (.iload_n 0, 1) := by decide +kernel
theorem dX9_instantOf_1 : decode cX9_instantOf 1 = .ok (.i2l, 1) := by decide +kernel
theorem dX9_instantOf_2 : decode cX9_instantOf 2 = .ok (.ldc2_w 227, 3) := by decide +kernel
theorem dX9_instantOf_5 : decode cX9_instantOf 5 = .ok (.lmul, 1) := by decide +kernel
theorem dX9_instantOf_6 : decode cX9_instantOf 6 = .ok (.iload_n 1, 1) := by decide +kernel
theorem dX9_instantOf_7 : decode cX9_instantOf 7 = .ok (.i2l, 1) := by decide +kernel
theorem dX9_instantOf_8 : decode cX9_instantOf 8 = .ok (.ladd, 1) := by decide +kernel
theorem dX9_instantOf_9 : decode cX9_instantOf 9 = .ok (.lreturn, 1) := by decide +kernel
theorem dX10_init_0 : decode cX10_init 0 = .ok (.aload_n 0, 1) := by decide +kernel
theorem dX10_init_1 : decode cX10_init 1 = .ok (.invokespecial 1, 3) := by decide +kernel
theorem dX10_init_4 : decode cX10_init 4 = .ok (.aload_n 0, 1) := by decide +kernel
theorem dX10_init_5 : decode cX10_init 5 = .ok (.bipush 8, 2) := by decide +kernel
theorem dX10_init_7 : decode cX10_init 7 = .ok (.newarray .int, 2) := by decide +kernel
theorem dX10_init_9 : decode cX10_init 9 = .ok (.putfield 9, 3) := by decide +kernel
theorem dX10_init_12 : decode cX10_init 12 = .ok (.aload_n 0, 1) := by decide +kernel
theorem dX10_init_13 : decode cX10_init 13 = .ok (.bipush 8, 2) := by decide +kernel
theorem dX10_init_15 : decode cX10_init 15 = .ok (.newarray .int, 2) := by decide +kernel
theorem dX10_init_17 : decode cX10_init 17 = .ok (.putfield 13, 3) := by decide +kernel
theorem dX10_init_20 : decode cX10_init 20 = .ok (.aload_n 0, 1) := by decide +kernel
theorem dX10_init_21 : decode cX10_init 21 = .ok (.bipush 24, 2) := by decide +kernel
theorem dX10_init_23 : decode cX10_init 23 = .ok (.newarray .int, 2) := by decide +kernel
theorem dX10_init_25 : decode cX10_init 25 = .ok (.putfield 16, 3) := by decide +kernel
theorem dX10_init_28 : decode cX10_init 28 = .ok (.aload_n 0, 1) := by decide +kernel
theorem dX10_init_29 : decode cX10_init 29 = .ok (.bipush 40, 2) := by decide +kernel
theorem dX10_init_31 : decode cX10_init 31 = .ok (.newarray .int, 2) := by decide +kernel
theorem dX10_init_33 : decode cX10_init 33 = .ok (.putfield 19, 3) := by decide +kernel
theorem dX10_init_36 : decode cX10_init 36 = .ok (.aload_n 0, 1) := by decide +kernel
theorem dX10_init_37 : decode cX10_init 37 = .ok (.bipush 100, 2) := by decide +kernel
theorem dX10_init_39 : decode cX10_init 39 = .ok (.newarray .byte, 2) := by decide +kernel
theorem dX10_init_41 : decode cX10_init 41 = .ok (.putfield 22, 3) := by decide +kernel
theorem dX10_init_44 : decode cX10_init 44 = .ok (.aload_n 0, 1) := by decide +kernel
theorem dX10_init_45 : decode cX10_init 45 = .ok (.bipush 16, 2) := by decide +kernel
theorem dX10_init_47 : decode cX10_init 47 = .ok (.newarray .long, 2) := by decide +kernel
theorem dX10_init_49 : decode cX10_init 49 = .ok (.putfield 26, 3) := by decide +kernel
theorem dX10_init_52 : decode cX10_init 52 = .ok (.aload_n 0, 1) := by decide +kernel
theorem dX10_init_53 : decode cX10_init 53 = .ok (.iconst 3, 1) := by decide +kernel
theorem dX10_init_54 : decode cX10_init 54 = .ok (.newarray .int, 2) := by decide +kernel
theorem dX10_init_56 : decode cX10_init 56 = .ok (.putfield 30, 3) := by decide +kernel
theorem dX10_init_59 : decode cX10_init 59 = .ok (.aload_n 0, 1) := by decide +kernel
theorem dX10_init_60 : decode cX10_init 60 = .ok (.iconst 3, 1) := by decide +kernel
theorem dX10_init_61 : decode cX10_init 61 = .ok (.newarray .int, 2) := by decide +kernel
theorem dX10_init_63 : decode cX10_init 63 = .ok (.putfield 33, 3) := by decide +kernel
theorem dX10_init_66 : decode cX10_init 66 = .ok (.aload_n 0, 1) := by decide +kernel
theorem dX10_init_67 : decode cX10_init 67 = .ok (.iconst 3, 1) := by decide +kernel
theorem dX10_init_68 : decode cX10_init 68 = .ok (.newarray .int, 2) := by decide +kernel
theorem dX10_init_70 : decode cX10_init 70 = .ok (.putfield 36, 3) := by decide +kernel
theorem dX10_init_73 : decode cX10_init 73 = .ok (.aload_n 0, 1) := by decide +kernel
theorem dX10_init_74 : decode cX10_init 74 = .ok (.sipush 128, 3) := by decide +kernel
theorem dX10_init_77 : decode cX10_init 77 = .ok (.newarray .long, 2) := by decide +kernel
theorem dX10_init_79 : decode cX10_init 79 = .ok (.putfield 39, 3) := by decide +kernel
theorem dX10_init_82 : decode cX10_init 82 = .ok (.aload_n 0, 1) := by decide +kernel
theorem dX10_init_83 : decode cX10_init 83 = .ok (.sipush 128, 3) := by decide +kernel
theorem dX10_init_86 : decode cX10_init 86 = .ok (.newarray .byte, 2) := by decide +kernel
theorem dX10_init_88 : decode cX10_init 88 = .ok (.putfield 42, 3) := by decide +kernel
theorem dX10_init_91 : decode cX10_init 91 = .ok (.return_, 1) := by decide +kernel
theorem dX10_thrown_0 : decode cX10_thrown 0 = .ok (.aload_n 0, 1) := by decide +kernel
theorem dX10_thrown_1 : decode cX10_thrown 1 = .ok (.getfield 45, 3) := by decide +kernel
theorem dX10_thrown_4 : decode cX10_thrown 4 = .ok (.ireturn, 1) := by decide +kernel
theorem dX10_in_0 : decode cX10_in 0 = .ok (.lload_n 0, 1) := by decide +kernel
theorem dX10_in_1 : decode cX10_in 1 = .ok (.lload_n 2, 1) := by decide +kernel
theorem dX10_in_2 : decode cX10_in 2 = .ok (.lcmp, 1) := by decide +kernel
theorem dX10_in_3 : decode cX10_in 3 = .ok (.ifCond .lt 14, 3) := by decide +kernel
theorem dX10_in_6 : decode cX10_in 6 = .ok (.lload_n 0, 1) := by decide +kernel
theorem dX10_in_7 : decode cX10_in 7 = .ok (.lload 4, 2) := by decide +kernel
theorem dX10_in_9 : decode cX10_in 9 = .ok (.lcmp, 1) := by decide +kernel
theorem dX10_in_10 : decode cX10_in 10 = .ok (.ifCond .gt 7, 3) := by decide +kernel
theorem dX10_in_13 : decode cX10_in 13 = .ok (.iconst 1, 1) := by decide +kernel
theorem dX10_in_14 : decode cX10_in 14 = .ok (.goto 4, 3) := by decide +kernel
theorem dX10_in_17 : decode cX10_in 17 = .ok (.iconst 0, 1) := by decide +kernel
theorem dX10_in_18 : decode cX10_in 18 = .ok (.ireturn, 1) := by decide +kernel
theorem dX10_lost_0 : decode cX10_lost 0 = .ok (.aload_n 0, 1) := by decide +kernel
theorem dX10_lost_1 : decode cX10_lost 1 = .ok (.iconst 1, 1) := by decide +kernel
theorem dX10_lost_2 : decode cX10_lost 2 = .ok (.putfield 45, 3) := by decide +kernel
theorem dX10_lost_5 : decode cX10_lost 5 = .ok (.iconst 0, 1) := by decide +kernel
theorem dX10_lost_6 : decode cX10_lost 6 = .ok (.ireturn, 1) := by decide +kernel
theorem dX10_tell_0 : decode cX10_tell 0 = .ok (.aload_n 0, 1) := by decide +kernel
theorem dX10_tell_1 : decode cX10_tell 1 = .ok (.getfield 26, 3) := by decide +kernel
theorem dX10_tell_4 : decode cX10_tell 4 = .ok (.aload_n 0, 1) := by decide +kernel
theorem dX10_tell_5 : decode cX10_tell 5 = .ok (.getfield 49, 3) := by decide +kernel
theorem dX10_tell_8 : decode cX10_tell 8 = .ok (.lload_n 1, 1) := by decide +kernel
theorem dX10_tell_9 : decode cX10_tell 9 = .ok (.lastore, 1) := by decide +kernel
theorem dX10_tell_10 : decode cX10_tell 10 = .ok (.aload_n 0, 1) := by decide +kernel
theorem dX10_tell_11 : decode cX10_tell 11 = .ok (.dup, 1) := by decide +kernel
theorem dX10_tell_12 : decode cX10_tell 12 = .ok (.getfield 49, 3) := by decide +kernel
theorem dX10_tell_15 : decode cX10_tell 15 = .ok (.iconst 1, 1) := by decide +kernel
theorem dX10_tell_16 : decode cX10_tell 16 = .ok (.iadd, 1) := by decide +kernel
theorem dX10_tell_17 : decode cX10_tell 17 = .ok (.putfield 49, 3) := by decide +kernel
theorem dX10_tell_20 : decode cX10_tell 20 = .ok (.return_, 1) := by decide +kernel
theorem dX10_isSlot_0 : decode cX10_isSlot 0 = .ok (.iload_n 0, 1) := by decide +kernel
theorem dX10_isSlot_1 : decode cX10_isSlot 1 = .ok (.i2l, 1) := by decide +kernel
theorem dX10_isSlot_2 : decode cX10_isSlot 2 = .ok (.lconst 0, 1) := by decide +kernel
theorem dX10_isSlot_3 : decode cX10_isSlot 3 = .ok (.ldc2_w 52, 3) := by decide +kernel
theorem dX10_isSlot_6 : decode cX10_isSlot 6 = .ok (.invokestatic 54, 3) := by decide +kernel
theorem dX10_isSlot_9 : decode cX10_isSlot 9 = .ok (.ireturn, 1) := by decide +kernel
theorem dX10_isDay_0 : decode cX10_isDay 0 = .ok (.lload_n 0, 1) := by decide +kernel
theorem dX10_isDay_1 : decode cX10_isDay 1 = .ok (.lconst 0, 1) := by decide +kernel
theorem dX10_isDay_2 : decode cX10_isDay 2 = .ok (.ldc2_w 58, 3) := by decide +kernel
theorem dX10_isDay_5 : decode cX10_isDay 5 = .ok (.invokestatic 54, 3) := by decide +kernel
theorem dX10_isDay_8 : decode cX10_isDay 8 = .ok (.ireturn, 1) := by decide +kernel
theorem dX10_isLaw_0 : decode cX10_isLaw 0 = .ok (.iload_n 0, 1) := by decide +kernel
theorem dX10_isLaw_1 : decode cX10_isLaw 1 = .ok (.i2l, 1) := by decide +kernel
theorem dX10_isLaw_2 : decode cX10_isLaw 2 = .ok (.lconst 0, 1) := by decide +kernel
theorem dX10_isLaw_3 : decode cX10_isLaw 3 = .ok (.ldc2_w 60, 3) := by decide +kernel
theorem dX10_isLaw_6 : decode cX10_isLaw 6 = .ok (.invokestatic 54, 3) := by decide +kernel
theorem dX10_isLaw_9 : decode cX10_isLaw 9 = .ok (.ireturn, 1) := by decide +kernel
theorem dX10_isOrder_0 : decode cX10_isOrder 0 = .ok (.iload_n 0, 1) := by decide +kernel
theorem dX10_isOrder_1 : decode cX10_isOrder 1 = .ok (.i2l, 1) := by decide +kernel
theorem dX10_isOrder_2 : decode cX10_isOrder 2 = .ok (.lconst 0, 1) := by decide +kernel
theorem dX10_isOrder_3 : decode cX10_isOrder 3 = .ok (.lconst 1, 1) := by decide +kernel
theorem dX10_isOrder_4 : decode cX10_isOrder 4 = .ok (.invokestatic 54, 3) := by decide +kernel
theorem dX10_isOrder_7 : decode cX10_isOrder 7 = .ok (.ireturn, 1) := by decide +kernel
theorem dX10_isPart_0 : decode cX10_isPart 0 = .ok (.lload_n 0, 1) := by decide +kernel
theorem dX10_isPart_1 : decode cX10_isPart 1 = .ok (.ldc2_w 62, 3) := by decide +kernel
theorem dX10_isPart_4 : decode cX10_isPart 4 = .ok (.ldc2_w 64, 3) := by decide +kernel
theorem dX10_isPart_7 : decode cX10_isPart 7 = .ok (.invokestatic 54, 3) := by decide +kernel
theorem dX10_isPart_10 : decode cX10_isPart 10 = .ok (.ireturn, 1) := by decide +kernel
theorem dX10_sign_0 : decode cX10_sign 0 = .ok (.aload_n 0, 1) := by decide +kernel
theorem dX10_sign_1 : decode cX10_sign 1 = .ok (.iconst 0, 1) := by decide +kernel
theorem dX10_sign_2 : decode cX10_sign 2 = .ok (.putfield 45, 3) := by decide +kernel
theorem dX10_sign_5 : decode cX10_sign 5 = .ok (.aload_n 0, 1) := by decide +kernel
theorem dX10_sign_6 : decode cX10_sign 6 = .ok (.getfield 66, 3) := by decide +kernel
theorem dX10_sign_9 : decode cX10_sign 9 = .ok (.iconst 4, 1) := by decide +kernel
theorem dX10_sign_10 : decode cX10_sign 10 = .ok (.iadd, 1) := by decide +kernel
theorem dX10_sign_11 : decode cX10_sign 11 = .ok (.bipush 100, 2) := by decide +kernel
theorem dX10_sign_13 : decode cX10_sign 13 = .ok (.if_icmp .le 5, 3) := by decide +kernel
theorem dX10_sign_16 : decode cX10_sign 16 = .ok (.iconst (-1), 1) := by decide +kernel
theorem dX10_sign_17 : decode cX10_sign 17 = .ok (.ireturn, 1) := by decide +kernel
theorem dX10_sign_18 : decode cX10_sign 18 = .ok (.iconst 3, 1) := by decide +kernel
theorem dX10_sign_19 : decode cX10_sign 19 = .ok (.istore_n 2, 1) := by decide +kernel
theorem dX10_sign_20 : decode cX10_sign 20 = .ok (.iload_n 2, 1) := by decide +kernel
theorem dX10_sign_21 : decode cX10_sign 21 = .ok (.ifCond .lt 32, 3) := by decide +kernel
theorem dX10_sign_24 : decode cX10_sign 24 = .ok (.aload_n 0, 1) := by decide +kernel
theorem dX10_sign_25 : decode cX10_sign 25 = .ok (.getfield 22, 3) := by decide +kernel
theorem dX10_sign_28 : decode cX10_sign 28 = .ok (.aload_n 0, 1) := by decide +kernel
theorem dX10_sign_29 : decode cX10_sign 29 = .ok (.dup, 1) := by decide +kernel
theorem dX10_sign_30 : decode cX10_sign 30 = .ok (.getfield 66, 3) := by decide +kernel
theorem dX10_sign_33 : decode cX10_sign 33 = .ok (.dup_x1, 1) := by decide +kernel
theorem dX10_sign_34 : decode cX10_sign 34 = .ok (.iconst 1, 1) := by decide +kernel
theorem dX10_sign_35 : decode cX10_sign 35 = .ok (.iadd, 1) := by decide +kernel
theorem dX10_sign_36 : decode cX10_sign 36 = .ok (.putfield 66, 3) := by decide +kernel
theorem dX10_sign_39 : decode cX10_sign 39 = .ok (.iload_n 1, 1) := by decide +kernel
theorem dX10_sign_40 : decode cX10_sign 40 = .ok (.bipush 8, 2) := by decide +kernel
theorem dX10_sign_42 : decode cX10_sign 42 = .ok (.iload_n 2, 1) := by decide +kernel
theorem dX10_sign_43 : decode cX10_sign 43 = .ok (.imul, 1) := by decide +kernel
theorem dX10_sign_44 : decode cX10_sign 44 = .ok (.ishr, 1) := by decide +kernel
theorem dX10_sign_45 : decode cX10_sign 45 = .ok (.i2b, 1) := by decide +kernel
theorem dX10_sign_46 : decode cX10_sign 46 = .ok (.bastore, 1) := by decide +kernel
theorem dX10_sign_47 : decode cX10_sign 47 = .ok (.iinc 2 (-1), 3) := by decide +kernel
theorem dX10_sign_50 : decode cX10_sign 50 = .ok (.goto (-30), 3) := by decide +kernel
theorem dX10_sign_53 : decode cX10_sign 53 = .ok (.aload_n 0, 1) := by decide +kernel
theorem dX10_sign_54 : decode cX10_sign 54 = .ok (.getfield 66, 3) := by decide +kernel
theorem dX10_sign_57 : decode cX10_sign 57 = .ok (.ireturn, 1) := by decide +kernel
theorem dX10_end_0 : decode cX10_end 0 = .ok (.aload_n 0, 1) := by decide +kernel
theorem dX10_end_1 : decode cX10_end 1 = .ok (.iconst 0, 1) := by decide +kernel
theorem dX10_end_2 : decode cX10_end 2 = .ok (.putfield 45, 3) := by decide +kernel
theorem dX10_end_5 : decode cX10_end 5 = .ok (.iload_n 1, 1) := by decide +kernel
theorem dX10_end_6 : decode cX10_end 6 = .ok (.i2l, 1) := by decide +kernel
theorem dX10_end_7 : decode cX10_end 7 = .ok (.lconst 0, 1) := by decide +kernel
theorem dX10_end_8 : decode cX10_end 8 = .ok (.aload_n 0, 1) := by decide +kernel
theorem dX10_end_9 : decode cX10_end 9 = .ok (.getfield 66, 3) := by decide +kernel
theorem dX10_end_12 : decode cX10_end 12 = .ok (.i2l, 1) := by decide +kernel
theorem dX10_end_13 : decode cX10_end 13 = .ok (.invokestatic 54, 3) := by decide +kernel
theorem dX10_end_16 : decode cX10_end 16 = .ok (.ifCond .ne 5, 3) := by decide +kernel
theorem dX10_end_19 : decode cX10_end 19 = .ok (.iconst 0, 1) := by decide +kernel
theorem dX10_end_20 : decode cX10_end 20 = .ok (.ireturn, 1) := by decide +kernel
theorem dX10_end_21 : decode cX10_end 21 = .ok (.aload_n 0, 1) := by decide +kernel
theorem dX10_end_22 : decode cX10_end 22 = .ok (.iload_n 1, 1) := by decide +kernel
theorem dX10_end_23 : decode cX10_end 23 = .ok (.putfield 66, 3) := by decide +kernel
theorem dX10_end_26 : decode cX10_end 26 = .ok (.iconst 1, 1) := by decide +kernel
theorem dX10_end_27 : decode cX10_end 27 = .ok (.ireturn, 1) := by decide +kernel
theorem dX10_isLeap_0 : decode cX10_isLeap 0 = .ok (.iload_n 0, 1) := by decide +kernel
theorem dX10_isLeap_1 : decode cX10_isLeap 1 = .ok (.iconst 4, 1) := by decide +kernel
theorem dX10_isLeap_2 : decode cX10_isLeap 2 = .ok (.irem, 1) := by decide +kernel
theorem dX10_isLeap_3 : decode cX10_isLeap 3 = .ok (.ifCond .ne 10, 3) := by decide +kernel
theorem dX10_isLeap_6 : decode cX10_isLeap 6 = .ok (.iload_n 0, 1) := by decide +kernel
theorem dX10_isLeap_7 : decode cX10_isLeap 7 = .ok (.bipush 100, 2) := by decide +kernel
theorem dX10_isLeap_9 : decode cX10_isLeap 9 = .ok (.irem, 1) := by decide +kernel
theorem dX10_isLeap_10 : decode cX10_isLeap 10 = .ok (.ifCond .ne 11, 3) := by decide +kernel
theorem dX10_isLeap_13 : decode cX10_isLeap 13 = .ok (.iload_n 0, 1) := by decide +kernel
theorem dX10_isLeap_14 : decode cX10_isLeap 14 = .ok (.sipush 400, 3) := by decide +kernel
theorem dX10_isLeap_17 : decode cX10_isLeap 17 = .ok (.irem, 1) := by decide +kernel
theorem dX10_isLeap_18 : decode cX10_isLeap 18 = .ok (.ifCond .ne 7, 3) := by decide +kernel
theorem dX10_isLeap_21 : decode cX10_isLeap 21 = .ok (.iconst 1, 1) := by decide +kernel
theorem dX10_isLeap_22 : decode cX10_isLeap 22 = .ok (.goto 4, 3) := by decide +kernel
theorem dX10_isLeap_25 : decode cX10_isLeap 25 = .ok (.iconst 0, 1) := by decide +kernel
theorem dX10_isLeap_26 : decode cX10_isLeap 26 = .ok (.ireturn, 1) := by decide +kernel
theorem dX10_monthDays_0 : decode cX10_monthDays 0 = .ok (.iload_n 1, 1) := by decide +kernel
theorem dX10_monthDays_1 : decode cX10_monthDays 1 = .ok (.iconst 2, 1) := by decide +kernel
theorem dX10_monthDays_2 : decode cX10_monthDays 2 = .ok (.if_icmp .ne 18, 3) := by decide +kernel
theorem dX10_monthDays_5 : decode cX10_monthDays 5 = .ok (.iload_n 0, 1) := by decide +kernel
theorem dX10_monthDays_6 : decode cX10_monthDays 6 = .ok (.invokestatic 69, 3) := by decide +kernel
theorem dX10_monthDays_9 : decode cX10_monthDays 9 = .ok (.ifCond .eq 8, 3) := by decide +kernel
theorem dX10_monthDays_12 : decode cX10_monthDays 12 = .ok (.bipush 29, 2) := by decide +kernel
theorem dX10_monthDays_14 : decode cX10_monthDays 14 = .ok (.goto 5, 3) := by decide +kernel
theorem dX10_monthDays_17 : decode cX10_monthDays 17 = .ok (.bipush 28, 2) := by decide +kernel
theorem dX10_monthDays_19 : decode cX10_monthDays 19 = .ok (.ireturn, 1) := by decide +kernel
theorem dX10_monthDays_20 : decode cX10_monthDays 20 = .ok (.iload_n 1, 1) := by decide +kernel
theorem dX10_monthDays_21 : decode cX10_monthDays 21 = .ok (.iconst 4, 1) := by decide +kernel
theorem dX10_monthDays_22 : decode cX10_monthDays 22 = .ok (.if_icmp .eq 21, 3) := by decide +kernel
theorem dX10_monthDays_25 : decode cX10_monthDays 25 = .ok (.iload_n 1, 1) := by decide +kernel
theorem dX10_monthDays_26 : decode cX10_monthDays 26 = .ok (.bipush 6, 2) := by decide +kernel
theorem dX10_monthDays_28 : decode cX10_monthDays 28 = .ok (.if_icmp .eq 15, 3) := by decide +kernel
theorem dX10_monthDays_31 : decode cX10_monthDays 31 = .ok (.iload_n 1, 1) := by decide +kernel
theorem dX10_monthDays_32 : decode cX10_monthDays 32 = .ok (.bipush 9, 2) := by decide +kernel
theorem dX10_monthDays_34 : decode cX10_monthDays 34 = .ok (.if_icmp .eq 9, 3) := by decide +kernel
theorem dX10_monthDays_37 : decode cX10_monthDays 37 = .ok (.iload_n 1, 1) := by decide +kernel
theorem dX10_monthDays_38 : decode cX10_monthDays 38 = .ok (.bipush 11, 2) := by decide +kernel
theorem dX10_monthDays_40 : decode cX10_monthDays 40 = .ok (.if_icmp .ne 8, 3) := by decide +kernel
theorem dX10_monthDays_43 : decode cX10_monthDays 43 = .ok (.bipush 30, 2) := by decide +kernel
theorem dX10_monthDays_45 : decode cX10_monthDays 45 = .ok (.goto 5, 3) := by decide +kernel
theorem dX10_monthDays_48 : decode cX10_monthDays 48 = .ok (.bipush 31, 2) := by decide +kernel
theorem dX10_monthDays_50 : decode cX10_monthDays 50 = .ok (.ireturn, 1) := by decide +kernel
theorem dX10_yearBegins_0 : decode cX10_yearBegins 0 = .ok (.iload_n 0, 1) := by decide +kernel
theorem dX10_yearBegins_1 : decode cX10_yearBegins 1 = .ok (.iconst 1, 1) := by decide +kernel
theorem dX10_yearBegins_2 : decode cX10_yearBegins 2 = .ok (.isub, 1) := by decide +kernel
theorem dX10_yearBegins_3 : decode cX10_yearBegins 3 = .ok (.istore_n 1, 1) := by decide +kernel
theorem dX10_yearBegins_4 : decode cX10_yearBegins 4 = .ok (.sipush 365, 3) := by decide +kernel
theorem dX10_yearBegins_7 : decode cX10_yearBegins 7 = .ok (.iload_n 1, 1) := by decide +kernel
theorem dX10_yearBegins_8 : decode cX10_yearBegins 8 = .ok (.imul, 1) := by decide +kernel
theorem dX10_yearBegins_9 : decode cX10_yearBegins 9 = .ok (.iload_n 1, 1) := by decide +kernel
theorem dX10_yearBegins_10 : decode cX10_yearBegins 10 = .ok (.iconst 4, 1) := by decide +kernel
theorem dX10_yearBegins_11 : decode cX10_yearBegins 11 = .ok (.idiv, 1) := by decide +kernel
theorem dX10_yearBegins_12 : decode cX10_yearBegins 12 = .ok (.iadd, 1) := by decide +kernel
theorem dX10_yearBegins_13 : decode cX10_yearBegins 13 = .ok (.iload_n 1, 1) := by decide +kernel
theorem dX10_yearBegins_14 : decode cX10_yearBegins 14 = .ok (.bipush 100, 2) := by decide +kernel
theorem dX10_yearBegins_16 : decode cX10_yearBegins 16 = .ok (.idiv, 1) := by decide +kernel
theorem dX10_yearBegins_17 : decode cX10_yearBegins 17 = .ok (.isub, 1) := by decide +kernel
theorem dX10_yearBegins_18 : decode cX10_yearBegins 18 = .ok (.iload_n 1, 1) := by decide +kernel
theorem dX10_yearBegins_19 : decode cX10_yearBegins 19 = .ok (.sipush 400, 3) := by decide +kernel
theorem dX10_yearBegins_22 : decode cX10_yearBegins 22 = .ok (.idiv, 1) := by decide +kernel
theorem dX10_yearBegins_23 : decode cX10_yearBegins 23 = .ok (.iadd, 1) := by decide +kernel
theorem dX10_yearBegins_24 : decode cX10_yearBegins 24 = .ok (.ireturn, 1) := by decide +kernel
theorem dX10_ahead_0 : decode cX10_ahead 0 = .ok (.iload_n 0, 1) := by decide +kernel
theorem dX10_ahead_1 : decode cX10_ahead 1 = .ok (.tableswitch 97 1 11 #[59, 61, 64, 67, 70, 73, 77, 81, 85, 89, 93], 59) := by decide +kernel
theorem dX10_ahead_60 : decode cX10_ahead 60 = .ok (.iconst 0, 1) := by decide +kernel
theorem dX10_ahead_61 : decode cX10_ahead 61 = .ok (.ireturn, 1) := by decide +kernel
theorem dX10_ahead_62 : decode cX10_ahead 62 = .ok (.bipush 31, 2) := by decide +kernel
theorem dX10_ahead_64 : decode cX10_ahead 64 = .ok (.ireturn, 1) := by decide +kernel
theorem dX10_ahead_65 : decode cX10_ahead 65 = .ok (.bipush 59, 2) := by decide +kernel
theorem dX10_ahead_67 : decode cX10_ahead 67 = .ok (.ireturn, 1) := by decide +kernel
theorem dX10_ahead_68 : decode cX10_ahead 68 = .ok (.bipush 90, 2) := by decide +kernel
theorem dX10_ahead_70 : decode cX10_ahead 70 = .ok (.ireturn, 1) := by decide +kernel
theorem dX10_ahead_71 : decode cX10_ahead 71 = .ok (.bipush 120, 2) := by decide +kernel
theorem dX10_ahead_73 : decode cX10_ahead 73 = .ok (.ireturn, 1) := by decide +kernel
theorem dX10_ahead_74 : decode cX10_ahead 74 = .ok (.sipush 151, 3) := by decide +kernel
theorem dX10_ahead_77 : decode cX10_ahead 77 = .ok (.ireturn, 1) := by decide +kernel
theorem dX10_ahead_78 : decode cX10_ahead 78 = .ok (.sipush 181, 3) := by decide +kernel
theorem dX10_ahead_81 : decode cX10_ahead 81 = .ok (.ireturn, 1) := by decide +kernel
theorem dX10_ahead_82 : decode cX10_ahead 82 = .ok (.sipush 212, 3) := by decide +kernel
theorem dX10_ahead_85 : decode cX10_ahead 85 = .ok (.ireturn, 1) := by decide +kernel
theorem dX10_ahead_86 : decode cX10_ahead 86 = .ok (.sipush 243, 3) := by decide +kernel
theorem dX10_ahead_89 : decode cX10_ahead 89 = .ok (.ireturn, 1) := by decide +kernel
theorem dX10_ahead_90 : decode cX10_ahead 90 = .ok (.sipush 273, 3) := by decide +kernel
theorem dX10_ahead_93 : decode cX10_ahead 93 = .ok (.ireturn, 1) := by decide +kernel
theorem dX10_ahead_94 : decode cX10_ahead 94 = .ok (.sipush 304, 3) := by decide +kernel
theorem dX10_ahead_97 : decode cX10_ahead 97 = .ok (.ireturn, 1) := by decide +kernel
theorem dX10_ahead_98 : decode cX10_ahead 98 = .ok (.sipush 334, 3) := by decide +kernel
theorem dX10_ahead_101 : decode cX10_ahead 101 = .ok (.ireturn, 1) := by decide +kernel
theorem dX10_dayOf_0 : decode cX10_dayOf 0 = .ok (.iload_n 0, 1) := by decide +kernel
theorem dX10_dayOf_1 : decode cX10_dayOf 1 = .ok (.invokestatic 73, 3) := by decide +kernel
theorem dX10_dayOf_4 : decode cX10_dayOf 4 = .ok (.iload_n 1, 1) := by decide +kernel
theorem dX10_dayOf_5 : decode cX10_dayOf 5 = .ok (.invokestatic 77, 3) := by decide +kernel
theorem dX10_dayOf_8 : decode cX10_dayOf 8 = .ok (.iadd, 1) := by decide +kernel
theorem dX10_dayOf_9 : decode cX10_dayOf 9 = .ok (.iload_n 1, 1) := by decide +kernel
theorem dX10_dayOf_10 : decode cX10_dayOf 10 = .ok (.iconst 2, 1) := by decide +kernel
theorem dX10_dayOf_11 : decode cX10_dayOf 11 = .ok (.if_icmp .le 14, 3) := by decide +kernel
theorem dX10_dayOf_14 : decode cX10_dayOf 14 = .ok (.iload_n 0, 1) := by decide +kernel
theorem dX10_dayOf_15 : decode cX10_dayOf 15 = .ok (.invokestatic 69, 3) := by decide +kernel
theorem dX10_dayOf_18 : decode cX10_dayOf 18 = .ok (.ifCond .eq 7, 3) := by decide +kernel
theorem dX10_dayOf_21 : decode cX10_dayOf 21 = .ok (.iconst 1, 1) := by decide +kernel
theorem dX10_dayOf_22 : decode cX10_dayOf 22 = .ok (.goto 4, 3) := by decide +kernel
theorem dX10_dayOf_25 : decode cX10_dayOf 25 = .ok (.iconst 0, 1) := by decide +kernel
theorem dX10_dayOf_26 : decode cX10_dayOf 26 = .ok (.iadd, 1) := by decide +kernel
theorem dX10_dayOf_27 : decode cX10_dayOf 27 = .ok (.iload_n 2, 1) := by decide +kernel
theorem dX10_dayOf_28 : decode cX10_dayOf 28 = .ok (.iadd, 1) := by decide +kernel
theorem dX10_dayOf_29 : decode cX10_dayOf 29 = .ok (.iconst 1, 1) := by decide +kernel
theorem dX10_dayOf_30 : decode cX10_dayOf 30 = .ok (.isub, 1) := by decide +kernel
theorem dX10_dayOf_31 : decode cX10_dayOf 31 = .ok (.ireturn, 1) := by decide +kernel
theorem dX10_dates_0 : decode cX10_dates 0 = .ok (.iload_n 1, 1) := by decide +kernel
theorem dX10_dates_1 : decode cX10_dates 1 = .ok (.i2l, 1) := by decide +kernel
theorem dX10_dates_2 : decode cX10_dates 2 = .ok (.ldc2_w 80, 3) := by decide +kernel
theorem dX10_dates_5 : decode cX10_dates 5 = .ok (.lmul, 1) := by decide +kernel
theorem dX10_dates_6 : decode cX10_dates 6 = .ok (.ldc2_w 82, 3) := by decide +kernel
theorem dX10_dates_9 : decode cX10_dates 9 = .ok (.ldiv, 1) := by decide +kernel
theorem dX10_dates_10 : decode cX10_dates 10 = .ok (.l2i, 1) := by decide +kernel
theorem dX10_dates_11 : decode cX10_dates 11 = .ok (.iconst 1, 1) := by decide +kernel
theorem dX10_dates_12 : decode cX10_dates 12 = .ok (.iadd, 1) := by decide +kernel
theorem dX10_dates_13 : decode cX10_dates 13 = .ok (.istore_n 2, 1) := by decide +kernel
theorem dX10_dates_14 : decode cX10_dates 14 = .ok (.iload_n 2, 1) := by decide +kernel
theorem dX10_dates_15 : decode cX10_dates 15 = .ok (.iconst 1, 1) := by decide +kernel
theorem dX10_dates_16 : decode cX10_dates 16 = .ok (.if_icmp .le 17, 3) := by decide +kernel
theorem dX10_dates_19 : decode cX10_dates 19 = .ok (.iload_n 2, 1) := by decide +kernel
theorem dX10_dates_20 : decode cX10_dates 20 = .ok (.invokestatic 73, 3) := by decide +kernel
theorem dX10_dates_23 : decode cX10_dates 23 = .ok (.iload_n 1, 1) := by decide +kernel
theorem dX10_dates_24 : decode cX10_dates 24 = .ok (.if_icmp .le 9, 3) := by decide +kernel
theorem dX10_dates_27 : decode cX10_dates 27 = .ok (.iinc 2 (-1), 3) := by decide +kernel
theorem dX10_dates_30 : decode cX10_dates 30 = .ok (.goto (-16), 3) := by decide +kernel
theorem dX10_dates_33 : decode cX10_dates 33 = .ok (.iload_n 2, 1) := by decide +kernel
theorem dX10_dates_34 : decode cX10_dates 34 = .ok (.iconst 1, 1) := by decide +kernel
theorem dX10_dates_35 : decode cX10_dates 35 = .ok (.iadd, 1) := by decide +kernel
theorem dX10_dates_36 : decode cX10_dates 36 = .ok (.invokestatic 73, 3) := by decide +kernel
theorem dX10_dates_39 : decode cX10_dates 39 = .ok (.iload_n 1, 1) := by decide +kernel
theorem dX10_dates_40 : decode cX10_dates 40 = .ok (.if_icmp .gt 9, 3) := by decide +kernel
theorem dX10_dates_43 : decode cX10_dates 43 = .ok (.iinc 2 1, 3) := by decide +kernel
theorem dX10_dates_46 : decode cX10_dates 46 = .ok (.goto (-13), 3) := by decide +kernel
theorem dX10_dates_49 : decode cX10_dates 49 = .ok (.aload_n 0, 1) := by decide +kernel
theorem dX10_dates_50 : decode cX10_dates 50 = .ok (.iload_n 2, 1) := by decide +kernel
theorem dX10_dates_51 : decode cX10_dates 51 = .ok (.putfield 84, 3) := by decide +kernel
theorem dX10_dates_54 : decode cX10_dates 54 = .ok (.iload_n 1, 1) := by decide +kernel
theorem dX10_dates_55 : decode cX10_dates 55 = .ok (.iload_n 2, 1) := by decide +kernel
theorem dX10_dates_56 : decode cX10_dates 56 = .ok (.invokestatic 73, 3) := by decide +kernel
theorem dX10_dates_59 : decode cX10_dates 59 = .ok (.isub, 1) := by decide +kernel
theorem dX10_dates_60 : decode cX10_dates 60 = .ok (.istore_n 3, 1) := by decide +kernel
theorem dX10_dates_61 : decode cX10_dates 61 = .ok (.aload_n 0, 1) := by decide +kernel
theorem dX10_dates_62 : decode cX10_dates 62 = .ok (.iload_n 3, 1) := by decide +kernel
theorem dX10_dates_63 : decode cX10_dates 63 = .ok (.bipush 31, 2) := by decide +kernel
theorem dX10_dates_65 : decode cX10_dates 65 = .ok (.idiv, 1) := by decide +kernel
theorem dX10_dates_66 : decode cX10_dates 66 = .ok (.iconst 1, 1) := by decide +kernel
theorem dX10_dates_67 : decode cX10_dates 67 = .ok (.iadd, 1) := by decide +kernel
theorem dX10_dates_68 : decode cX10_dates 68 = .ok (.putfield 87, 3) := by decide +kernel
theorem dX10_dates_71 : decode cX10_dates 71 = .ok (.aload_n 0, 1) := by decide +kernel
theorem dX10_dates_72 : decode cX10_dates 72 = .ok (.getfield 87, 3) := by decide +kernel
theorem dX10_dates_75 : decode cX10_dates 75 = .ok (.bipush 12, 2) := by decide +kernel
theorem dX10_dates_77 : decode cX10_dates 77 = .ok (.if_icmp .ge 31, 3) := by decide +kernel
theorem dX10_dates_80 : decode cX10_dates 80 = .ok (.iload_n 2, 1) := by decide +kernel
theorem dX10_dates_81 : decode cX10_dates 81 = .ok (.aload_n 0, 1) := by decide +kernel
theorem dX10_dates_82 : decode cX10_dates 82 = .ok (.getfield 87, 3) := by decide +kernel
theorem dX10_dates_85 : decode cX10_dates 85 = .ok (.iconst 1, 1) := by decide +kernel
theorem dX10_dates_86 : decode cX10_dates 86 = .ok (.iadd, 1) := by decide +kernel
theorem dX10_dates_87 : decode cX10_dates 87 = .ok (.iconst 1, 1) := by decide +kernel
theorem dX10_dates_88 : decode cX10_dates 88 = .ok (.invokestatic 90, 3) := by decide +kernel
theorem dX10_dates_91 : decode cX10_dates 91 = .ok (.iload_n 1, 1) := by decide +kernel
theorem dX10_dates_92 : decode cX10_dates 92 = .ok (.if_icmp .gt 16, 3) := by decide +kernel
theorem dX10_dates_95 : decode cX10_dates 95 = .ok (.aload_n 0, 1) := by decide +kernel
theorem dX10_dates_96 : decode cX10_dates 96 = .ok (.dup, 1) := by decide +kernel
theorem dX10_dates_97 : decode cX10_dates 97 = .ok (.getfield 87, 3) := by decide +kernel
theorem dX10_dates_100 : decode cX10_dates 100 = .ok (.iconst 1, 1) := by decide +kernel
theorem dX10_dates_101 : decode cX10_dates 101 = .ok (.iadd, 1) := by decide +kernel
theorem dX10_dates_102 : decode cX10_dates 102 = .ok (.putfield 87, 3) := by decide +kernel
theorem dX10_dates_105 : decode cX10_dates 105 = .ok (.goto (-34), 3) := by decide +kernel
theorem dX10_dates_108 : decode cX10_dates 108 = .ok (.aload_n 0, 1) := by decide +kernel
theorem dX10_dates_109 : decode cX10_dates 109 = .ok (.iload_n 1, 1) := by decide +kernel
theorem dX10_dates_110 : decode cX10_dates 110 = .ok (.iload_n 2, 1) := by decide +kernel
theorem dX10_dates_111 : decode cX10_dates 111 = .ok (.aload_n 0, 1) := by decide +kernel
theorem dX10_dates_112 : decode cX10_dates 112 = .ok (.getfield 87, 3) := by decide +kernel
theorem dX10_dates_115 : decode cX10_dates 115 = .ok (.iconst 1, 1) := by decide +kernel
theorem dX10_dates_116 : decode cX10_dates 116 = .ok (.invokestatic 90, 3) := by decide +kernel
theorem dX10_dates_119 : decode cX10_dates 119 = .ok (.isub, 1) := by decide +kernel
theorem dX10_dates_120 : decode cX10_dates 120 = .ok (.iconst 1, 1) := by decide +kernel
theorem dX10_dates_121 : decode cX10_dates 121 = .ok (.iadd, 1) := by decide +kernel
theorem dX10_dates_122 : decode cX10_dates 122 = .ok (.putfield 94, 3) := by decide +kernel
theorem dX10_dates_125 : decode cX10_dates 125 = .ok (.return_, 1) := by decide +kernel
theorem dX10_dateOf_0 : decode cX10_dateOf 0 = .ok (.aload_n 0, 1) := by decide +kernel
theorem dX10_dateOf_1 : decode cX10_dateOf 1 = .ok (.iload_n 1, 1) := by decide +kernel
theorem dX10_dateOf_2 : decode cX10_dateOf 2 = .ok (.invokevirtual 97, 3) := by decide +kernel
theorem dX10_dateOf_5 : decode cX10_dateOf 5 = .ok (.sipush 10000, 3) := by decide +kernel
theorem dX10_dateOf_8 : decode cX10_dateOf 8 = .ok (.aload_n 0, 1) := by decide +kernel
theorem dX10_dateOf_9 : decode cX10_dateOf 9 = .ok (.getfield 84, 3) := by decide +kernel
theorem dX10_dateOf_12 : decode cX10_dateOf 12 = .ok (.imul, 1) := by decide +kernel
theorem dX10_dateOf_13 : decode cX10_dateOf 13 = .ok (.bipush 100, 2) := by decide +kernel
theorem dX10_dateOf_15 : decode cX10_dateOf 15 = .ok (.aload_n 0, 1) := by decide +kernel
theorem dX10_dateOf_16 : decode cX10_dateOf 16 = .ok (.getfield 87, 3) := by decide +kernel
theorem dX10_dateOf_19 : decode cX10_dateOf 19 = .ok (.imul, 1) := by decide +kernel
theorem dX10_dateOf_20 : decode cX10_dateOf 20 = .ok (.iadd, 1) := by decide +kernel
theorem dX10_dateOf_21 : decode cX10_dateOf 21 = .ok (.aload_n 0, 1) := by decide +kernel
theorem dX10_dateOf_22 : decode cX10_dateOf 22 = .ok (.getfield 94, 3) := by decide +kernel
theorem dX10_dateOf_25 : decode cX10_dateOf 25 = .ok (.iadd, 1) := by decide +kernel
theorem dX10_dateOf_26 : decode cX10_dateOf 26 = .ok (.ireturn, 1) := by decide +kernel
theorem dX10_addsMonths_0 : decode cX10_addsMonths 0 = .ok (.aload_n 0, 1) := by decide +kernel
theorem dX10_addsMonths_1 : decode cX10_addsMonths 1 = .ok (.iconst 0, 1) := by decide +kernel
theorem dX10_addsMonths_2 : decode cX10_addsMonths 2 = .ok (.putfield 101, 3) := by decide +kernel
theorem dX10_addsMonths_5 : decode cX10_addsMonths 5 = .ok (.lload_n 1, 1) := by decide +kernel
theorem dX10_addsMonths_6 : decode cX10_addsMonths 6 = .ok (.lconst 0, 1) := by decide +kernel
theorem dX10_addsMonths_7 : decode cX10_addsMonths 7 = .ok (.lcmp, 1) := by decide +kernel
theorem dX10_addsMonths_8 : decode cX10_addsMonths 8 = .ok (.ifCond .ne 5, 3) := by decide +kernel
theorem dX10_addsMonths_11 : decode cX10_addsMonths 11 = .ok (.iconst 1, 1) := by decide +kernel
theorem dX10_addsMonths_12 : decode cX10_addsMonths 12 = .ok (.ireturn, 1) := by decide +kernel
theorem dX10_addsMonths_13 : decode cX10_addsMonths 13 = .ok (.aload_n 0, 1) := by decide +kernel
theorem dX10_addsMonths_14 : decode cX10_addsMonths 14 = .ok (.aload_n 0, 1) := by decide +kernel
theorem dX10_addsMonths_15 : decode cX10_addsMonths 15 = .ok (.getfield 104, 3) := by decide +kernel
theorem dX10_addsMonths_18 : decode cX10_addsMonths 18 = .ok (.invokevirtual 97, 3) := by decide +kernel
theorem dX10_addsMonths_21 : decode cX10_addsMonths 21 = .ok (.ldc2_w 107, 3) := by decide +kernel
theorem dX10_addsMonths_24 : decode cX10_addsMonths 24 = .ok (.aload_n 0, 1) := by decide +kernel
theorem dX10_addsMonths_25 : decode cX10_addsMonths 25 = .ok (.getfield 84, 3) := by decide +kernel
theorem dX10_addsMonths_28 : decode cX10_addsMonths 28 = .ok (.i2l, 1) := by decide +kernel
theorem dX10_addsMonths_29 : decode cX10_addsMonths 29 = .ok (.lmul, 1) := by decide +kernel
theorem dX10_addsMonths_30 : decode cX10_addsMonths 30 = .ok (.aload_n 0, 1) := by decide +kernel
theorem dX10_addsMonths_31 : decode cX10_addsMonths 31 = .ok (.getfield 87, 3) := by decide +kernel
theorem dX10_addsMonths_34 : decode cX10_addsMonths 34 = .ok (.i2l, 1) := by decide +kernel
theorem dX10_addsMonths_35 : decode cX10_addsMonths 35 = .ok (.ladd, 1) := by decide +kernel
theorem dX10_addsMonths_36 : decode cX10_addsMonths 36 = .ok (.lconst 1, 1) := by decide +kernel
theorem dX10_addsMonths_37 : decode cX10_addsMonths 37 = .ok (.lsub, 1) := by decide +kernel
theorem dX10_addsMonths_38 : decode cX10_addsMonths 38 = .ok (.lload_n 1, 1) := by decide +kernel
theorem dX10_addsMonths_39 : decode cX10_addsMonths 39 = .ok (.ladd, 1) := by decide +kernel
theorem dX10_addsMonths_40 : decode cX10_addsMonths 40 = .ok (.lstore 4, 2) := by decide +kernel
theorem dX10_addsMonths_42 : decode cX10_addsMonths 42 = .ok (.lload 4, 2) := by decide +kernel
theorem dX10_addsMonths_44 : decode cX10_addsMonths 44 = .ok (.ldc2_w 107, 3) := by decide +kernel
theorem dX10_addsMonths_47 : decode cX10_addsMonths 47 = .ok (.lcmp, 1) := by decide +kernel
theorem dX10_addsMonths_48 : decode cX10_addsMonths 48 = .ok (.ifCond .lt 12, 3) := by decide +kernel
theorem dX10_addsMonths_51 : decode cX10_addsMonths 51 = .ok (.lload 4, 2) := by decide +kernel
theorem dX10_addsMonths_53 : decode cX10_addsMonths 53 = .ok (.ldc2_w 109, 3) := by decide +kernel
theorem dX10_addsMonths_56 : decode cX10_addsMonths 56 = .ok (.lcmp, 1) := by decide +kernel
theorem dX10_addsMonths_57 : decode cX10_addsMonths 57 = .ok (.ifCond .lt 5, 3) := by decide +kernel
theorem dX10_addsMonths_60 : decode cX10_addsMonths 60 = .ok (.iconst 0, 1) := by decide +kernel
theorem dX10_addsMonths_61 : decode cX10_addsMonths 61 = .ok (.ireturn, 1) := by decide +kernel
theorem dX10_addsMonths_62 : decode cX10_addsMonths 62 = .ok (.lload 4, 2) := by decide +kernel
theorem dX10_addsMonths_64 : decode cX10_addsMonths 64 = .ok (.ldc2_w 107, 3) := by decide +kernel
theorem dX10_addsMonths_67 : decode cX10_addsMonths 67 = .ok (.ldiv, 1) := by decide +kernel
theorem dX10_addsMonths_68 : decode cX10_addsMonths 68 = .ok (.l2i, 1) := by decide +kernel
theorem dX10_addsMonths_69 : decode cX10_addsMonths 69 = .ok (.istore 6, 2) := by decide +kernel
theorem dX10_addsMonths_71 : decode cX10_addsMonths 71 = .ok (.lload 4, 2) := by decide +kernel
theorem dX10_addsMonths_73 : decode cX10_addsMonths 73 = .ok (.ldc2_w 107, 3) := by decide +kernel
theorem dX10_addsMonths_76 : decode cX10_addsMonths 76 = .ok (.lrem, 1) := by decide +kernel
theorem dX10_addsMonths_77 : decode cX10_addsMonths 77 = .ok (.l2i, 1) := by decide +kernel
theorem dX10_addsMonths_78 : decode cX10_addsMonths 78 = .ok (.iconst 1, 1) := by decide +kernel
theorem dX10_addsMonths_79 : decode cX10_addsMonths 79 = .ok (.iadd, 1) := by decide +kernel
theorem dX10_addsMonths_80 : decode cX10_addsMonths 80 = .ok (.istore 7, 2) := by decide +kernel
theorem dX10_addsMonths_82 : decode cX10_addsMonths 82 = .ok (.iload 6, 2) := by decide +kernel
theorem dX10_addsMonths_84 : decode cX10_addsMonths 84 = .ok (.iload 7, 2) := by decide +kernel
theorem dX10_addsMonths_86 : decode cX10_addsMonths 86 = .ok (.invokestatic 111, 3) := by decide +kernel
theorem dX10_addsMonths_89 : decode cX10_addsMonths 89 = .ok (.istore 8, 2) := by decide +kernel
theorem dX10_addsMonths_91 : decode cX10_addsMonths 91 = .ok (.aload_n 0, 1) := by decide +kernel
theorem dX10_addsMonths_92 : decode cX10_addsMonths 92 = .ok (.getfield 94, 3) := by decide +kernel
theorem dX10_addsMonths_95 : decode cX10_addsMonths 95 = .ok (.aload_n 0, 1) := by decide +kernel
theorem dX10_addsMonths_96 : decode cX10_addsMonths 96 = .ok (.getfield 84, 3) := by decide +kernel
theorem dX10_addsMonths_99 : decode cX10_addsMonths 99 = .ok (.aload_n 0, 1) := by decide +kernel
theorem dX10_addsMonths_100 : decode cX10_addsMonths 100 = .ok (.getfield 87, 3) := by decide +kernel
theorem dX10_addsMonths_103 : decode cX10_addsMonths 103 = .ok (.invokestatic 111, 3) := by decide +kernel
theorem dX10_addsMonths_106 : decode cX10_addsMonths 106 = .ok (.if_icmp .ne 7, 3) := by decide +kernel
theorem dX10_addsMonths_109 : decode cX10_addsMonths 109 = .ok (.iconst 1, 1) := by decide +kernel
theorem dX10_addsMonths_110 : decode cX10_addsMonths 110 = .ok (.goto 4, 3) := by decide +kernel
theorem dX10_addsMonths_113 : decode cX10_addsMonths 113 = .ok (.iconst 0, 1) := by decide +kernel
theorem dX10_addsMonths_114 : decode cX10_addsMonths 114 = .ok (.istore 9, 2) := by decide +kernel
theorem dX10_addsMonths_116 : decode cX10_addsMonths 116 = .ok (.aload_n 0, 1) := by decide +kernel
theorem dX10_addsMonths_117 : decode cX10_addsMonths 117 = .ok (.iconst 0, 1) := by decide +kernel
theorem dX10_addsMonths_118 : decode cX10_addsMonths 118 = .ok (.aload_n 0, 1) := by decide +kernel
theorem dX10_addsMonths_119 : decode cX10_addsMonths 119 = .ok (.getfield 94, 3) := by decide +kernel
theorem dX10_addsMonths_122 : decode cX10_addsMonths 122 = .ok (.iload 8, 2) := by decide +kernel
theorem dX10_addsMonths_124 : decode cX10_addsMonths 124 = .ok (.isub, 1) := by decide +kernel
theorem dX10_addsMonths_125 : decode cX10_addsMonths 125 = .ok (.invokestatic 115, 3) := by decide +kernel
theorem dX10_addsMonths_128 : decode cX10_addsMonths 128 = .ok (.putfield 101, 3) := by decide +kernel
theorem dX10_addsMonths_131 : decode cX10_addsMonths 131 = .ok (.aload_n 0, 1) := by decide +kernel
theorem dX10_addsMonths_132 : decode cX10_addsMonths 132 = .ok (.getfield 101, 3) := by decide +kernel
theorem dX10_addsMonths_135 : decode cX10_addsMonths 135 = .ok (.ifCond .le 10, 3) := by decide +kernel
theorem dX10_addsMonths_138 : decode cX10_addsMonths 138 = .ok (.iload_n 3, 1) := by decide +kernel
theorem dX10_addsMonths_139 : decode cX10_addsMonths 139 = .ok (.iconst 3, 1) := by decide +kernel
theorem dX10_addsMonths_140 : decode cX10_addsMonths 140 = .ok (.if_icmp .ne 5, 3) := by decide +kernel
theorem dX10_addsMonths_143 : decode cX10_addsMonths 143 = .ok (.iconst 0, 1) := by decide +kernel
theorem dX10_addsMonths_144 : decode cX10_addsMonths 144 = .ok (.ireturn, 1) := by decide +kernel
theorem dX10_addsMonths_145 : decode cX10_addsMonths 145 = .ok (.aload_n 0, 1) := by decide +kernel
theorem dX10_addsMonths_146 : decode cX10_addsMonths 146 = .ok (.getfield 94, 3) := by decide +kernel
theorem dX10_addsMonths_149 : decode cX10_addsMonths 149 = .ok (.iload 8, 2) := by decide +kernel
theorem dX10_addsMonths_151 : decode cX10_addsMonths 151 = .ok (.invokestatic 120, 3) := by decide +kernel
theorem dX10_addsMonths_154 : decode cX10_addsMonths 154 = .ok (.istore 10, 2) := by decide +kernel
theorem dX10_addsMonths_156 : decode cX10_addsMonths 156 = .ok (.iload_n 3, 1) := by decide +kernel
theorem dX10_addsMonths_157 : decode cX10_addsMonths 157 = .ok (.iconst 2, 1) := by decide +kernel
theorem dX10_addsMonths_158 : decode cX10_addsMonths 158 = .ok (.if_icmp .ne 12, 3) := by decide +kernel
theorem dX10_addsMonths_161 : decode cX10_addsMonths 161 = .ok (.iload 9, 2) := by decide +kernel
theorem dX10_addsMonths_163 : decode cX10_addsMonths 163 = .ok (.ifCond .eq 7, 3) := by decide +kernel
theorem dX10_addsMonths_166 : decode cX10_addsMonths 166 = .ok (.iload 8, 2) := by decide +kernel
theorem dX10_addsMonths_168 : decode cX10_addsMonths 168 = .ok (.istore 10, 2) := by decide +kernel
theorem dX10_addsMonths_170 : decode cX10_addsMonths 170 = .ok (.iload 6, 2) := by decide +kernel
theorem dX10_addsMonths_172 : decode cX10_addsMonths 172 = .ok (.iload 7, 2) := by decide +kernel
theorem dX10_addsMonths_174 : decode cX10_addsMonths 174 = .ok (.iload 10, 2) := by decide +kernel
theorem dX10_addsMonths_176 : decode cX10_addsMonths 176 = .ok (.invokestatic 90, 3) := by decide +kernel
theorem dX10_addsMonths_179 : decode cX10_addsMonths 179 = .ok (.iload_n 3, 1) := by decide +kernel
theorem dX10_addsMonths_180 : decode cX10_addsMonths 180 = .ok (.iconst 1, 1) := by decide +kernel
theorem dX10_addsMonths_181 : decode cX10_addsMonths 181 = .ok (.if_icmp .ne 10, 3) := by decide +kernel
theorem dX10_addsMonths_184 : decode cX10_addsMonths 184 = .ok (.aload_n 0, 1) := by decide +kernel
theorem dX10_addsMonths_185 : decode cX10_addsMonths 185 = .ok (.getfield 101, 3) := by decide +kernel
theorem dX10_addsMonths_188 : decode cX10_addsMonths 188 = .ok (.goto 4, 3) := by decide +kernel
theorem dX10_addsMonths_191 : decode cX10_addsMonths 191 = .ok (.iconst 0, 1) := by decide +kernel
theorem dX10_addsMonths_192 : decode cX10_addsMonths 192 = .ok (.iadd, 1) := by decide +kernel
theorem dX10_addsMonths_193 : decode cX10_addsMonths 193 = .ok (.istore 11, 2) := by decide +kernel
theorem dX10_addsMonths_195 : decode cX10_addsMonths 195 = .ok (.iload 11, 2) := by decide +kernel
theorem dX10_addsMonths_197 : decode cX10_addsMonths 197 = .ok (.i2l, 1) := by decide +kernel
theorem dX10_addsMonths_198 : decode cX10_addsMonths 198 = .ok (.invokestatic 123, 3) := by decide +kernel
theorem dX10_addsMonths_201 : decode cX10_addsMonths 201 = .ok (.ifCond .ne 5, 3) := by decide +kernel
theorem dX10_addsMonths_204 : decode cX10_addsMonths 204 = .ok (.iconst 0, 1) := by decide +kernel
theorem dX10_addsMonths_205 : decode cX10_addsMonths 205 = .ok (.ireturn, 1) := by decide +kernel
theorem dX10_addsMonths_206 : decode cX10_addsMonths 206 = .ok (.aload_n 0, 1) := by decide +kernel
theorem dX10_addsMonths_207 : decode cX10_addsMonths 207 = .ok (.iload 11, 2) := by decide +kernel
theorem dX10_addsMonths_209 : decode cX10_addsMonths 209 = .ok (.putfield 104, 3) := by decide +kernel
theorem dX10_addsMonths_212 : decode cX10_addsMonths 212 = .ok (.iconst 1, 1) := by decide +kernel
theorem dX10_addsMonths_213 : decode cX10_addsMonths 213 = .ok (.ireturn, 1) := by decide +kernel
theorem dX10_addsDays_0 : decode cX10_addsDays 0 = .ok (.aload_n 0, 1) := by decide +kernel
theorem dX10_addsDays_1 : decode cX10_addsDays 1 = .ok (.getfield 104, 3) := by decide +kernel
theorem dX10_addsDays_4 : decode cX10_addsDays 4 = .ok (.i2l, 1) := by decide +kernel
theorem dX10_addsDays_5 : decode cX10_addsDays 5 = .ok (.lload_n 1, 1) := by decide +kernel
theorem dX10_addsDays_6 : decode cX10_addsDays 6 = .ok (.ladd, 1) := by decide +kernel
theorem dX10_addsDays_7 : decode cX10_addsDays 7 = .ok (.invokestatic 123, 3) := by decide +kernel
theorem dX10_addsDays_10 : decode cX10_addsDays 10 = .ok (.ifCond .ne 5, 3) := by decide +kernel
theorem dX10_addsDays_13 : decode cX10_addsDays 13 = .ok (.iconst 0, 1) := by decide +kernel
theorem dX10_addsDays_14 : decode cX10_addsDays 14 = .ok (.ireturn, 1) := by decide +kernel
theorem dX10_addsDays_15 : decode cX10_addsDays 15 = .ok (.aload_n 0, 1) := by decide +kernel
theorem dX10_addsDays_16 : decode cX10_addsDays 16 = .ok (.dup, 1) := by decide +kernel
theorem dX10_addsDays_17 : decode cX10_addsDays 17 = .ok (.getfield 104, 3) := by decide +kernel
theorem dX10_addsDays_20 : decode cX10_addsDays 20 = .ok (.lload_n 1, 1) := by decide +kernel
theorem dX10_addsDays_21 : decode cX10_addsDays 21 = .ok (.l2i, 1) := by decide +kernel
theorem dX10_addsDays_22 : decode cX10_addsDays 22 = .ok (.iadd, 1) := by decide +kernel
theorem dX10_addsDays_23 : decode cX10_addsDays 23 = .ok (.putfield 104, 3) := by decide +kernel
theorem dX10_addsDays_26 : decode cX10_addsDays 26 = .ok (.iconst 1, 1) := by decide +kernel
theorem dX10_addsDays_27 : decode cX10_addsDays 27 = .ok (.ireturn, 1) := by decide +kernel
theorem dX10_addsSeconds_0 : decode cX10_addsSeconds 0 = .ok (.aload_n 0, 1) := by decide +kernel
theorem dX10_addsSeconds_1 : decode cX10_addsSeconds 1 = .ok (.getfield 104, 3) := by decide +kernel
theorem dX10_addsSeconds_4 : decode cX10_addsSeconds 4 = .ok (.i2l, 1) := by decide +kernel
theorem dX10_addsSeconds_5 : decode cX10_addsSeconds 5 = .ok (.ldc2_w 127, 3) := by decide +kernel
theorem dX10_addsSeconds_8 : decode cX10_addsSeconds 8 = .ok (.lmul, 1) := by decide +kernel
theorem dX10_addsSeconds_9 : decode cX10_addsSeconds 9 = .ok (.aload_n 0, 1) := by decide +kernel
theorem dX10_addsSeconds_10 : decode cX10_addsSeconds 10 = .ok (.getfield 129, 3) := by decide +kernel
theorem dX10_addsSeconds_13 : decode cX10_addsSeconds 13 = .ok (.i2l, 1) := by decide +kernel
theorem dX10_addsSeconds_14 : decode cX10_addsSeconds 14 = .ok (.ladd, 1) := by decide +kernel
theorem dX10_addsSeconds_15 : decode cX10_addsSeconds 15 = .ok (.lload_n 1, 1) := by decide +kernel
theorem dX10_addsSeconds_16 : decode cX10_addsSeconds 16 = .ok (.ladd, 1) := by decide +kernel
theorem dX10_addsSeconds_17 : decode cX10_addsSeconds 17 = .ok (.lstore_n 3, 1) := by decide +kernel
theorem dX10_addsSeconds_18 : decode cX10_addsSeconds 18 = .ok (.lload_n 3, 1) := by decide +kernel
theorem dX10_addsSeconds_19 : decode cX10_addsSeconds 19 = .ok (.lconst 0, 1) := by decide +kernel
theorem dX10_addsSeconds_20 : decode cX10_addsSeconds 20 = .ok (.lcmp, 1) := by decide +kernel
theorem dX10_addsSeconds_21 : decode cX10_addsSeconds 21 = .ok (.ifCond .lt 14, 3) := by decide +kernel
theorem dX10_addsSeconds_24 : decode cX10_addsSeconds 24 = .ok (.lload_n 3, 1) := by decide +kernel
theorem dX10_addsSeconds_25 : decode cX10_addsSeconds 25 = .ok (.ldc2_w 127, 3) := by decide +kernel
theorem dX10_addsSeconds_28 : decode cX10_addsSeconds 28 = .ok (.ldiv, 1) := by decide +kernel
theorem dX10_addsSeconds_29 : decode cX10_addsSeconds 29 = .ok (.invokestatic 123, 3) := by decide +kernel
theorem dX10_addsSeconds_32 : decode cX10_addsSeconds 32 = .ok (.ifCond .ne 5, 3) := by decide +kernel
theorem dX10_addsSeconds_35 : decode cX10_addsSeconds 35 = .ok (.iconst 0, 1) := by decide +kernel
theorem dX10_addsSeconds_36 : decode cX10_addsSeconds 36 = .ok (.ireturn, 1) := by decide +kernel
theorem dX10_addsSeconds_37 : decode cX10_addsSeconds 37 = .ok (.aload_n 0, 1) := by decide +kernel
theorem dX10_addsSeconds_38 : decode cX10_addsSeconds 38 = .ok (.lload_n 3, 1) := by decide +kernel
theorem dX10_addsSeconds_39 : decode cX10_addsSeconds 39 = .ok (.ldc2_w 127, 3) := by decide +kernel
theorem dX10_addsSeconds_42 : decode cX10_addsSeconds 42 = .ok (.ldiv, 1) := by decide +kernel
theorem dX10_addsSeconds_43 : decode cX10_addsSeconds 43 = .ok (.l2i, 1) := by decide +kernel
theorem dX10_addsSeconds_44 : decode cX10_addsSeconds 44 = .ok (.putfield 104, 3) := by decide +kernel
theorem dX10_addsSeconds_47 : decode cX10_addsSeconds 47 = .ok (.aload_n 0, 1) := by decide +kernel
theorem dX10_addsSeconds_48 : decode cX10_addsSeconds 48 = .ok (.lload_n 3, 1) := by decide +kernel
theorem dX10_addsSeconds_49 : decode cX10_addsSeconds 49 = .ok (.ldc2_w 127, 3) := by decide +kernel
theorem dX10_addsSeconds_52 : decode cX10_addsSeconds 52 = .ok (.lrem, 1) := by decide +kernel
theorem dX10_addsSeconds_53 : decode cX10_addsSeconds 53 = .ok (.l2i, 1) := by decide +kernel
theorem dX10_addsSeconds_54 : decode cX10_addsSeconds 54 = .ok (.putfield 129, 3) := by decide +kernel
theorem dX10_addsSeconds_57 : decode cX10_addsSeconds 57 = .ok (.iconst 1, 1) := by decide +kernel
theorem dX10_addsSeconds_58 : decode cX10_addsSeconds 58 = .ok (.ireturn, 1) := by decide +kernel
theorem dX10_adds_0 : decode cX10_adds 0 = .ok (.aload_n 0, 1) := by decide +kernel
theorem dX10_adds_1 : decode cX10_adds 1 = .ok (.iconst 0, 1) := by decide +kernel
theorem dX10_adds_2 : decode cX10_adds 2 = .ok (.putfield 101, 3) := by decide +kernel
theorem dX10_adds_5 : decode cX10_adds 5 = .ok (.iload 8, 2) := by decide +kernel
theorem dX10_adds_7 : decode cX10_adds 7 = .ok (.ifCond .ne 36, 3) := by decide +kernel
theorem dX10_adds_10 : decode cX10_adds 10 = .ok (.aload_n 0, 1) := by decide +kernel
theorem dX10_adds_11 : decode cX10_adds 11 = .ok (.lload_n 1, 1) := by decide +kernel
theorem dX10_adds_12 : decode cX10_adds 12 = .ok (.iload 7, 2) := by decide +kernel
theorem dX10_adds_14 : decode cX10_adds 14 = .ok (.invokevirtual 132, 3) := by decide +kernel
theorem dX10_adds_17 : decode cX10_adds 17 = .ok (.ifCond .eq 24, 3) := by decide +kernel
theorem dX10_adds_20 : decode cX10_adds 20 = .ok (.aload_n 0, 1) := by decide +kernel
theorem dX10_adds_21 : decode cX10_adds 21 = .ok (.lload_n 3, 1) := by decide +kernel
theorem dX10_adds_22 : decode cX10_adds 22 = .ok (.invokevirtual 136, 3) := by decide +kernel
theorem dX10_adds_25 : decode cX10_adds 25 = .ok (.ifCond .eq 16, 3) := by decide +kernel
theorem dX10_adds_28 : decode cX10_adds 28 = .ok (.aload_n 0, 1) := by decide +kernel
theorem dX10_adds_29 : decode cX10_adds 29 = .ok (.lload 5, 2) := by decide +kernel
theorem dX10_adds_31 : decode cX10_adds 31 = .ok (.invokevirtual 139, 3) := by decide +kernel
theorem dX10_adds_34 : decode cX10_adds 34 = .ok (.ifCond .eq 7, 3) := by decide +kernel
theorem dX10_adds_37 : decode cX10_adds 37 = .ok (.iconst 1, 1) := by decide +kernel
theorem dX10_adds_38 : decode cX10_adds 38 = .ok (.goto 4, 3) := by decide +kernel
theorem dX10_adds_41 : decode cX10_adds 41 = .ok (.iconst 0, 1) := by decide +kernel
theorem dX10_adds_42 : decode cX10_adds 42 = .ok (.ireturn, 1) := by decide +kernel
theorem dX10_adds_43 : decode cX10_adds 43 = .ok (.aload_n 0, 1) := by decide +kernel
theorem dX10_adds_44 : decode cX10_adds 44 = .ok (.lload 5, 2) := by decide +kernel
theorem dX10_adds_46 : decode cX10_adds 46 = .ok (.invokevirtual 139, 3) := by decide +kernel
theorem dX10_adds_49 : decode cX10_adds 49 = .ok (.ifCond .eq 25, 3) := by decide +kernel
theorem dX10_adds_52 : decode cX10_adds 52 = .ok (.aload_n 0, 1) := by decide +kernel
theorem dX10_adds_53 : decode cX10_adds 53 = .ok (.lload_n 3, 1) := by decide +kernel
theorem dX10_adds_54 : decode cX10_adds 54 = .ok (.invokevirtual 136, 3) := by decide +kernel
theorem dX10_adds_57 : decode cX10_adds 57 = .ok (.ifCond .eq 17, 3) := by decide +kernel
theorem dX10_adds_60 : decode cX10_adds 60 = .ok (.aload_n 0, 1) := by decide +kernel
theorem dX10_adds_61 : decode cX10_adds 61 = .ok (.lload_n 1, 1) := by decide +kernel
theorem dX10_adds_62 : decode cX10_adds 62 = .ok (.iload 7, 2) := by decide +kernel
theorem dX10_adds_64 : decode cX10_adds 64 = .ok (.invokevirtual 132, 3) := by decide +kernel
theorem dX10_adds_67 : decode cX10_adds 67 = .ok (.ifCond .eq 7, 3) := by decide +kernel
theorem dX10_adds_70 : decode cX10_adds 70 = .ok (.iconst 1, 1) := by decide +kernel
theorem dX10_adds_71 : decode cX10_adds 71 = .ok (.goto 4, 3) := by decide +kernel
theorem dX10_adds_74 : decode cX10_adds 74 = .ok (.iconst 0, 1) := by decide +kernel
theorem dX10_adds_75 : decode cX10_adds 75 = .ok (.ireturn, 1) := by decide +kernel
theorem dX10_addsSpan_0 : decode cX10_addsSpan 0 = .ok (.aload_n 0, 1) := by decide +kernel
theorem dX10_addsSpan_1 : decode cX10_addsSpan 1 = .ok (.lload_n 2, 1) := by decide +kernel
theorem dX10_addsSpan_2 : decode cX10_addsSpan 2 = .ok (.aload_n 0, 1) := by decide +kernel
theorem dX10_addsSpan_3 : decode cX10_addsSpan 3 = .ok (.getfield 16, 3) := by decide +kernel
theorem dX10_addsSpan_6 : decode cX10_addsSpan 6 = .ok (.iconst 3, 1) := by decide +kernel
theorem dX10_addsSpan_7 : decode cX10_addsSpan 7 = .ok (.iload_n 1, 1) := by decide +kernel
theorem dX10_addsSpan_8 : decode cX10_addsSpan 8 = .ok (.imul, 1) := by decide +kernel
theorem dX10_addsSpan_9 : decode cX10_addsSpan 9 = .ok (.iaload, 1) := by decide +kernel
theorem dX10_addsSpan_10 : decode cX10_addsSpan 10 = .ok (.i2l, 1) := by decide +kernel
theorem dX10_addsSpan_11 : decode cX10_addsSpan 11 = .ok (.lmul, 1) := by decide +kernel
theorem dX10_addsSpan_12 : decode cX10_addsSpan 12 = .ok (.lload_n 2, 1) := by decide +kernel
theorem dX10_addsSpan_13 : decode cX10_addsSpan 13 = .ok (.aload_n 0, 1) := by decide +kernel
theorem dX10_addsSpan_14 : decode cX10_addsSpan 14 = .ok (.getfield 16, 3) := by decide +kernel
theorem dX10_addsSpan_17 : decode cX10_addsSpan 17 = .ok (.iconst 3, 1) := by decide +kernel
theorem dX10_addsSpan_18 : decode cX10_addsSpan 18 = .ok (.iload_n 1, 1) := by decide +kernel
theorem dX10_addsSpan_19 : decode cX10_addsSpan 19 = .ok (.imul, 1) := by decide +kernel
theorem dX10_addsSpan_20 : decode cX10_addsSpan 20 = .ok (.iconst 1, 1) := by decide +kernel
theorem dX10_addsSpan_21 : decode cX10_addsSpan 21 = .ok (.iadd, 1) := by decide +kernel
theorem dX10_addsSpan_22 : decode cX10_addsSpan 22 = .ok (.iaload, 1) := by decide +kernel
theorem dX10_addsSpan_23 : decode cX10_addsSpan 23 = .ok (.i2l, 1) := by decide +kernel
theorem dX10_addsSpan_24 : decode cX10_addsSpan 24 = .ok (.lmul, 1) := by decide +kernel
theorem dX10_addsSpan_25 : decode cX10_addsSpan 25 = .ok (.lload_n 2, 1) := by decide +kernel
theorem dX10_addsSpan_26 : decode cX10_addsSpan 26 = .ok (.aload_n 0, 1) := by decide +kernel
theorem dX10_addsSpan_27 : decode cX10_addsSpan 27 = .ok (.getfield 16, 3) := by decide +kernel
theorem dX10_addsSpan_30 : decode cX10_addsSpan 30 = .ok (.iconst 3, 1) := by decide +kernel
theorem dX10_addsSpan_31 : decode cX10_addsSpan 31 = .ok (.iload_n 1, 1) := by decide +kernel
theorem dX10_addsSpan_32 : decode cX10_addsSpan 32 = .ok (.imul, 1) := by decide +kernel
theorem dX10_addsSpan_33 : decode cX10_addsSpan 33 = .ok (.iconst 2, 1) := by decide +kernel
theorem dX10_addsSpan_34 : decode cX10_addsSpan 34 = .ok (.iadd, 1) := by decide +kernel
theorem dX10_addsSpan_35 : decode cX10_addsSpan 35 = .ok (.iaload, 1) := by decide +kernel
theorem dX10_addsSpan_36 : decode cX10_addsSpan 36 = .ok (.i2l, 1) := by decide +kernel
theorem dX10_addsSpan_37 : decode cX10_addsSpan 37 = .ok (.lmul, 1) := by decide +kernel
theorem dX10_addsSpan_38 : decode cX10_addsSpan 38 = .ok (.iload 4, 2) := by decide +kernel
theorem dX10_addsSpan_40 : decode cX10_addsSpan 40 = .ok (.iload 5, 2) := by decide +kernel
theorem dX10_addsSpan_42 : decode cX10_addsSpan 42 = .ok (.invokevirtual 142, 3) := by decide +kernel
theorem dX10_addsSpan_45 : decode cX10_addsSpan 45 = .ok (.ireturn, 1) := by decide +kernel
theorem dX10_stands_0 : decode cX10_stands 0 = .ok (.aload_n 0, 1) := by decide +kernel
theorem dX10_stands_1 : decode cX10_stands 1 = .ok (.iload_n 1, 1) := by decide +kernel
theorem dX10_stands_2 : decode cX10_stands 2 = .ok (.putfield 104, 3) := by decide +kernel
theorem dX10_stands_5 : decode cX10_stands 5 = .ok (.aload_n 0, 1) := by decide +kernel
theorem dX10_stands_6 : decode cX10_stands 6 = .ok (.iload_n 2, 1) := by decide +kernel
theorem dX10_stands_7 : decode cX10_stands 7 = .ok (.putfield 129, 3) := by decide +kernel
theorem dX10_stands_10 : decode cX10_stands 10 = .ok (.return_, 1) := by decide +kernel
theorem dX10_standsAt_0 : decode cX10_standsAt 0 = .ok (.aload_n 0, 1) := by decide +kernel
theorem dX10_standsAt_1 : decode cX10_standsAt 1 = .ok (.aload_n 0, 1) := by decide +kernel
theorem dX10_standsAt_2 : decode cX10_standsAt 2 = .ok (.getfield 9, 3) := by decide +kernel
theorem dX10_standsAt_5 : decode cX10_standsAt 5 = .ok (.iload_n 1, 1) := by decide +kernel
theorem dX10_standsAt_6 : decode cX10_standsAt 6 = .ok (.iaload, 1) := by decide +kernel
theorem dX10_standsAt_7 : decode cX10_standsAt 7 = .ok (.aload_n 0, 1) := by decide +kernel
theorem dX10_standsAt_8 : decode cX10_standsAt 8 = .ok (.getfield 13, 3) := by decide +kernel
theorem dX10_standsAt_11 : decode cX10_standsAt 11 = .ok (.iload_n 1, 1) := by decide +kernel
theorem dX10_standsAt_12 : decode cX10_standsAt 12 = .ok (.iaload, 1) := by decide +kernel
theorem dX10_standsAt_13 : decode cX10_standsAt 13 = .ok (.invokevirtual 146, 3) := by decide +kernel
theorem dX10_standsAt_16 : decode cX10_standsAt 16 = .ok (.return_, 1) := by decide +kernel
theorem dX10_instant_0 : decode cX10_instant 0 = .ok (.aload_n 0, 1) := by decide +kernel
theorem dX10_instant_1 : decode cX10_instant 1 = .ok (.getfield 104, 3) := by decide +kernel
theorem dX10_instant_4 : decode cX10_instant 4 = .ok (.i2l, 1) := by decide +kernel
theorem dX10_instant_5 : decode cX10_instant 5 = .ok (.ldc2_w 127, 3) := by decide +kernel
theorem dX10_instant_8 : decode cX10_instant 8 = .ok (.lmul, 1) := by decide +kernel
theorem dX10_instant_9 : decode cX10_instant 9 = .ok (.aload_n 0, 1) := by decide +kernel
theorem dX10_instant_10 : decode cX10_instant 10 = .ok (.getfield 129, 3) := by decide +kernel
theorem dX10_instant_13 : decode cX10_instant 13 = .ok (.i2l, 1) := by decide +kernel
theorem dX10_instant_14 : decode cX10_instant 14 = .ok (.ladd, 1) := by decide +kernel
theorem dX10_instant_15 : decode cX10_instant 15 = .ok (.lreturn, 1) := by decide +kernel
theorem dX10_instantOf_0 : decode cX10_instantOf 0 = .ok (.aload_n 0, 1) := by decide +kernel
theorem dX10_instantOf_1 : decode cX10_instantOf 1 = .ok (.getfield 9, 3) := by decide +kernel
theorem dX10_instantOf_4 : decode cX10_instantOf 4 = .ok (.iload_n 1, 1) := by decide +kernel
theorem dX10_instantOf_5 : decode cX10_instantOf 5 = .ok (.iaload, 1) := by decide +kernel
theorem dX10_instantOf_6 : decode cX10_instantOf 6 = .ok (.i2l, 1) := by decide +kernel
theorem dX10_instantOf_7 : decode cX10_instantOf 7 = .ok (.ldc2_w 127, 3) := by decide +kernel
theorem dX10_instantOf_10 : decode cX10_instantOf 10 = .ok (.lmul, 1) := by decide +kernel
theorem dX10_instantOf_11 : decode cX10_instantOf 11 = .ok (.aload_n 0, 1) := by decide +kernel
theorem dX10_instantOf_12 : decode cX10_instantOf 12 = .ok (.getfield 13, 3) := by decide +kernel
theorem dX10_instantOf_15 : decode cX10_instantOf 15 = .ok (.iload_n 1, 1) := by decide +kernel
theorem dX10_instantOf_16 : decode cX10_instantOf 16 = .ok (.iaload, 1) := by decide +kernel
theorem dX10_instantOf_17 : decode cX10_instantOf 17 = .ok (.i2l, 1) := by decide +kernel
theorem dX10_instantOf_18 : decode cX10_instantOf 18 = .ok (.ladd, 1) := by decide +kernel
theorem dX10_instantOf_19 : decode cX10_instantOf 19 = .ok (.lreturn, 1) := by decide +kernel
theorem dX10_comesTo_0 : decode cX10_comesTo 0 = .ok (.aload_n 0, 1) := by decide +kernel
theorem dX10_comesTo_1 : decode cX10_comesTo 1 = .ok (.getfield 9, 3) := by decide +kernel
theorem dX10_comesTo_4 : decode cX10_comesTo 4 = .ok (.iload_n 1, 1) := by decide +kernel
theorem dX10_comesTo_5 : decode cX10_comesTo 5 = .ok (.aload_n 0, 1) := by decide +kernel
theorem dX10_comesTo_6 : decode cX10_comesTo 6 = .ok (.getfield 104, 3) := by decide +kernel
theorem dX10_comesTo_9 : decode cX10_comesTo 9 = .ok (.iastore, 1) := by decide +kernel
theorem dX10_comesTo_10 : decode cX10_comesTo 10 = .ok (.aload_n 0, 1) := by decide +kernel
theorem dX10_comesTo_11 : decode cX10_comesTo 11 = .ok (.getfield 13, 3) := by decide +kernel
theorem dX10_comesTo_14 : decode cX10_comesTo 14 = .ok (.iload_n 1, 1) := by decide +kernel
theorem dX10_comesTo_15 : decode cX10_comesTo 15 = .ok (.aload_n 0, 1) := by decide +kernel
theorem dX10_comesTo_16 : decode cX10_comesTo 16 = .ok (.getfield 129, 3) := by decide +kernel
theorem dX10_comesTo_19 : decode cX10_comesTo 19 = .ok (.iastore, 1) := by decide +kernel
theorem dX10_comesTo_20 : decode cX10_comesTo 20 = .ok (.return_, 1) := by decide +kernel
theorem dX10_begin_0 : decode cX10_begin 0 = .ok (.aload_n 0, 1) := by decide +kernel
theorem dX10_begin_1 : decode cX10_begin 1 = .ok (.aload_n 0, 1) := by decide +kernel
theorem dX10_begin_2 : decode cX10_begin 2 = .ok (.getfield 66, 3) := by decide +kernel
theorem dX10_begin_5 : decode cX10_begin 5 = .ok (.putfield 150, 3) := by decide +kernel
theorem dX10_begin_8 : decode cX10_begin 8 = .ok (.aload_n 0, 1) := by decide +kernel
theorem dX10_begin_9 : decode cX10_begin 9 = .ok (.iconst 0, 1) := by decide +kernel
theorem dX10_begin_10 : decode cX10_begin 10 = .ok (.putfield 66, 3) := by decide +kernel
theorem dX10_begin_13 : decode cX10_begin 13 = .ok (.aload_n 0, 1) := by decide +kernel
theorem dX10_begin_14 : decode cX10_begin 14 = .ok (.iconst 0, 1) := by decide +kernel
theorem dX10_begin_15 : decode cX10_begin 15 = .ok (.putfield 153, 3) := by decide +kernel
theorem dX10_begin_18 : decode cX10_begin 18 = .ok (.aload_n 0, 1) := by decide +kernel
theorem dX10_begin_19 : decode cX10_begin 19 = .ok (.iconst (-1), 1) := by decide +kernel
theorem dX10_begin_20 : decode cX10_begin 20 = .ok (.putfield 156, 3) := by decide +kernel
theorem dX10_begin_23 : decode cX10_begin 23 = .ok (.return_, 1) := by decide +kernel
theorem dX10_sees_0 : decode cX10_sees 0 = .ok (.aload_n 0, 1) := by decide +kernel
theorem dX10_sees_1 : decode cX10_sees 1 = .ok (.getfield 153, 3) := by decide +kernel
theorem dX10_sees_4 : decode cX10_sees 4 = .ok (.aload_n 0, 1) := by decide +kernel
theorem dX10_sees_5 : decode cX10_sees 5 = .ok (.getfield 150, 3) := by decide +kernel
theorem dX10_sees_8 : decode cX10_sees 8 = .ok (.if_icmp .ge 19, 3) := by decide +kernel
theorem dX10_sees_11 : decode cX10_sees 11 = .ok (.aload_n 0, 1) := by decide +kernel
theorem dX10_sees_12 : decode cX10_sees 12 = .ok (.getfield 22, 3) := by decide +kernel
theorem dX10_sees_15 : decode cX10_sees 15 = .ok (.aload_n 0, 1) := by decide +kernel
theorem dX10_sees_16 : decode cX10_sees 16 = .ok (.getfield 153, 3) := by decide +kernel
theorem dX10_sees_19 : decode cX10_sees 19 = .ok (.baload, 1) := by decide +kernel
theorem dX10_sees_20 : decode cX10_sees 20 = .ok (.sipush 255, 3) := by decide +kernel
theorem dX10_sees_23 : decode cX10_sees 23 = .ok (.iand, 1) := by decide +kernel
theorem dX10_sees_24 : decode cX10_sees 24 = .ok (.goto 4, 3) := by decide +kernel
theorem dX10_sees_27 : decode cX10_sees 27 = .ok (.iconst (-1), 1) := by decide +kernel
theorem dX10_sees_28 : decode cX10_sees 28 = .ok (.ireturn, 1) := by decide +kernel
theorem dX10_fault_0 : decode cX10_fault 0 = .ok (.aload_n 0, 1) := by decide +kernel
theorem dX10_fault_1 : decode cX10_fault 1 = .ok (.getfield 156, 3) := by decide +kernel
theorem dX10_fault_4 : decode cX10_fault 4 = .ok (.iconst (-1), 1) := by decide +kernel
theorem dX10_fault_5 : decode cX10_fault 5 = .ok (.if_icmp .ne 8, 3) := by decide +kernel
theorem dX10_fault_8 : decode cX10_fault 8 = .ok (.aload_n 0, 1) := by decide +kernel
theorem dX10_fault_9 : decode cX10_fault 9 = .ok (.iload_n 1, 1) := by decide +kernel
theorem dX10_fault_10 : decode cX10_fault 10 = .ok (.putfield 156, 3) := by decide +kernel
theorem dX10_fault_13 : decode cX10_fault 13 = .ok (.return_, 1) := by decide +kernel
theorem dX10_expect_0 : decode cX10_expect 0 = .ok (.aload_n 0, 1) := by decide +kernel
theorem dX10_expect_1 : decode cX10_expect 1 = .ok (.getfield 156, 3) := by decide +kernel
theorem dX10_expect_4 : decode cX10_expect 4 = .ok (.iconst (-1), 1) := by decide +kernel
theorem dX10_expect_5 : decode cX10_expect 5 = .ok (.if_icmp .eq 4, 3) := by decide +kernel
theorem dX10_expect_8 : decode cX10_expect 8 = .ok (.return_, 1) := by decide +kernel
theorem dX10_expect_9 : decode cX10_expect 9 = .ok (.aload_n 0, 1) := by decide +kernel
theorem dX10_expect_10 : decode cX10_expect 10 = .ok (.invokevirtual 159, 3) := by decide +kernel
theorem dX10_expect_13 : decode cX10_expect 13 = .ok (.iload_n 1, 1) := by decide +kernel
theorem dX10_expect_14 : decode cX10_expect 14 = .ok (.if_icmp .ne 16, 3) := by decide +kernel
theorem dX10_expect_17 : decode cX10_expect 17 = .ok (.aload_n 0, 1) := by decide +kernel
theorem dX10_expect_18 : decode cX10_expect 18 = .ok (.dup, 1) := by decide +kernel
theorem dX10_expect_19 : decode cX10_expect 19 = .ok (.getfield 153, 3) := by decide +kernel
theorem dX10_expect_22 : decode cX10_expect 22 = .ok (.iconst 1, 1) := by decide +kernel
theorem dX10_expect_23 : decode cX10_expect 23 = .ok (.iadd, 1) := by decide +kernel
theorem dX10_expect_24 : decode cX10_expect 24 = .ok (.putfield 153, 3) := by decide +kernel
theorem dX10_expect_27 : decode cX10_expect 27 = .ok (.goto 11, 3) := by decide +kernel
theorem dX10_expect_30 : decode cX10_expect 30 = .ok (.aload_n 0, 1) := by decide +kernel
theorem dX10_expect_31 : decode cX10_expect 31 = .ok (.aload_n 0, 1) := by decide +kernel
theorem dX10_expect_32 : decode cX10_expect 32 = .ok (.getfield 153, 3) := by decide +kernel
theorem dX10_expect_35 : decode cX10_expect 35 = .ok (.invokevirtual 163, 3) := by decide +kernel
theorem dX10_expect_38 : decode cX10_expect 38 = .ok (.return_, 1) := by decide +kernel
theorem dX10_digit_0 : decode cX10_digit 0 = .ok (.aload_n 0, 1) := by decide +kernel
theorem dX10_digit_1 : decode cX10_digit 1 = .ok (.getfield 156, 3) := by decide +kernel
theorem dX10_digit_4 : decode cX10_digit 4 = .ok (.iconst (-1), 1) := by decide +kernel
theorem dX10_digit_5 : decode cX10_digit 5 = .ok (.if_icmp .eq 5, 3) := by decide +kernel
theorem dX10_digit_8 : decode cX10_digit 8 = .ok (.iload_n 1, 1) := by decide +kernel
theorem dX10_digit_9 : decode cX10_digit 9 = .ok (.ireturn, 1) := by decide +kernel
theorem dX10_digit_10 : decode cX10_digit 10 = .ok (.aload_n 0, 1) := by decide +kernel
theorem dX10_digit_11 : decode cX10_digit 11 = .ok (.invokevirtual 159, 3) := by decide +kernel
theorem dX10_digit_14 : decode cX10_digit 14 = .ok (.i2l, 1) := by decide +kernel
theorem dX10_digit_15 : decode cX10_digit 15 = .ok (.bipush 48, 2) := by decide +kernel
theorem dX10_digit_17 : decode cX10_digit 17 = .ok (.iload_n 1, 1) := by decide +kernel
theorem dX10_digit_18 : decode cX10_digit 18 = .ok (.iadd, 1) := by decide +kernel
theorem dX10_digit_19 : decode cX10_digit 19 = .ok (.i2l, 1) := by decide +kernel
theorem dX10_digit_20 : decode cX10_digit 20 = .ok (.bipush 48, 2) := by decide +kernel
theorem dX10_digit_22 : decode cX10_digit 22 = .ok (.iload_n 2, 1) := by decide +kernel
theorem dX10_digit_23 : decode cX10_digit 23 = .ok (.iadd, 1) := by decide +kernel
theorem dX10_digit_24 : decode cX10_digit 24 = .ok (.i2l, 1) := by decide +kernel
theorem dX10_digit_25 : decode cX10_digit 25 = .ok (.invokestatic 54, 3) := by decide +kernel
theorem dX10_digit_28 : decode cX10_digit 28 = .ok (.ifCond .ne 13, 3) := by decide +kernel
theorem dX10_digit_31 : decode cX10_digit 31 = .ok (.aload_n 0, 1) := by decide +kernel
theorem dX10_digit_32 : decode cX10_digit 32 = .ok (.aload_n 0, 1) := by decide +kernel
theorem dX10_digit_33 : decode cX10_digit 33 = .ok (.getfield 153, 3) := by decide +kernel
theorem dX10_digit_36 : decode cX10_digit 36 = .ok (.invokevirtual 163, 3) := by decide +kernel
theorem dX10_digit_39 : decode cX10_digit 39 = .ok (.iload_n 1, 1) := by decide +kernel
theorem dX10_digit_40 : decode cX10_digit 40 = .ok (.ireturn, 1) := by decide +kernel
theorem dX10_digit_41 : decode cX10_digit 41 = .ok (.aload_n 0, 1) := by decide +kernel
theorem dX10_digit_42 : decode cX10_digit 42 = .ok (.dup, 1) := by decide +kernel
theorem dX10_digit_43 : decode cX10_digit 43 = .ok (.getfield 153, 3) := by decide +kernel
theorem dX10_digit_46 : decode cX10_digit 46 = .ok (.iconst 1, 1) := by decide +kernel
theorem dX10_digit_47 : decode cX10_digit 47 = .ok (.iadd, 1) := by decide +kernel
theorem dX10_digit_48 : decode cX10_digit 48 = .ok (.putfield 153, 3) := by decide +kernel
theorem dX10_digit_51 : decode cX10_digit 51 = .ok (.aload_n 0, 1) := by decide +kernel
theorem dX10_digit_52 : decode cX10_digit 52 = .ok (.getfield 22, 3) := by decide +kernel
theorem dX10_digit_55 : decode cX10_digit 55 = .ok (.aload_n 0, 1) := by decide +kernel
theorem dX10_digit_56 : decode cX10_digit 56 = .ok (.getfield 153, 3) := by decide +kernel
theorem dX10_digit_59 : decode cX10_digit 59 = .ok (.iconst 1, 1) := by decide +kernel
theorem dX10_digit_60 : decode cX10_digit 60 = .ok (.isub, 1) := by decide +kernel
theorem dX10_digit_61 : decode cX10_digit 61 = .ok (.baload, 1) := by decide +kernel
theorem dX10_digit_62 : decode cX10_digit 62 = .ok (.bipush 48, 2) := by decide +kernel
theorem dX10_digit_64 : decode cX10_digit 64 = .ok (.isub, 1) := by decide +kernel
theorem dX10_digit_65 : decode cX10_digit 65 = .ok (.ireturn, 1) := by decide +kernel
theorem dX10_two_0 : decode cX10_two 0 = .ok (.aload_n 0, 1) := by decide +kernel
theorem dX10_two_1 : decode cX10_two 1 = .ok (.iload_n 1, 1) := by decide +kernel
theorem dX10_two_2 : decode cX10_two 2 = .ok (.bipush 10, 2) := by decide +kernel
theorem dX10_two_4 : decode cX10_two 4 = .ok (.idiv, 1) := by decide +kernel
theorem dX10_two_5 : decode cX10_two 5 = .ok (.iload_n 2, 1) := by decide +kernel
theorem dX10_two_6 : decode cX10_two 6 = .ok (.bipush 10, 2) := by decide +kernel
theorem dX10_two_8 : decode cX10_two 8 = .ok (.idiv, 1) := by decide +kernel
theorem dX10_two_9 : decode cX10_two 9 = .ok (.invokevirtual 166, 3) := by decide +kernel
theorem dX10_two_12 : decode cX10_two 12 = .ok (.istore_n 3, 1) := by decide +kernel
theorem dX10_two_13 : decode cX10_two 13 = .ok (.aload_n 0, 1) := by decide +kernel
theorem dX10_two_14 : decode cX10_two 14 = .ok (.iload_n 3, 1) := by decide +kernel
theorem dX10_two_15 : decode cX10_two 15 = .ok (.iload_n 1, 1) := by decide +kernel
theorem dX10_two_16 : decode cX10_two 16 = .ok (.bipush 10, 2) := by decide +kernel
theorem dX10_two_18 : decode cX10_two 18 = .ok (.idiv, 1) := by decide +kernel
theorem dX10_two_19 : decode cX10_two 19 = .ok (.if_icmp .ne 10, 3) := by decide +kernel
theorem dX10_two_22 : decode cX10_two 22 = .ok (.iload_n 1, 1) := by decide +kernel
theorem dX10_two_23 : decode cX10_two 23 = .ok (.bipush 10, 2) := by decide +kernel
theorem dX10_two_25 : decode cX10_two 25 = .ok (.irem, 1) := by decide +kernel
theorem dX10_two_26 : decode cX10_two 26 = .ok (.goto 4, 3) := by decide +kernel
theorem dX10_two_29 : decode cX10_two 29 = .ok (.iconst 0, 1) := by decide +kernel
theorem dX10_two_30 : decode cX10_two 30 = .ok (.iload_n 3, 1) := by decide +kernel
theorem dX10_two_31 : decode cX10_two 31 = .ok (.iload_n 2, 1) := by decide +kernel
theorem dX10_two_32 : decode cX10_two 32 = .ok (.bipush 10, 2) := by decide +kernel
theorem dX10_two_34 : decode cX10_two 34 = .ok (.idiv, 1) := by decide +kernel
theorem dX10_two_35 : decode cX10_two 35 = .ok (.if_icmp .ne 10, 3) := by decide +kernel
theorem dX10_two_38 : decode cX10_two 38 = .ok (.iload_n 2, 1) := by decide +kernel
theorem dX10_two_39 : decode cX10_two 39 = .ok (.bipush 10, 2) := by decide +kernel
theorem dX10_two_41 : decode cX10_two 41 = .ok (.irem, 1) := by decide +kernel
theorem dX10_two_42 : decode cX10_two 42 = .ok (.goto 5, 3) := by decide +kernel
theorem dX10_two_45 : decode cX10_two 45 = .ok (.bipush 9, 2) := by decide +kernel
theorem dX10_two_47 : decode cX10_two 47 = .ok (.invokevirtual 166, 3) := by decide +kernel
theorem dX10_two_50 : decode cX10_two 50 = .ok (.istore 4, 2) := by decide +kernel
theorem dX10_two_52 : decode cX10_two 52 = .ok (.bipush 10, 2) := by decide +kernel
theorem dX10_two_54 : decode cX10_two 54 = .ok (.iload_n 3, 1) := by decide +kernel
theorem dX10_two_55 : decode cX10_two 55 = .ok (.imul, 1) := by decide +kernel
theorem dX10_two_56 : decode cX10_two 56 = .ok (.iload 4, 2) := by decide +kernel
theorem dX10_two_58 : decode cX10_two 58 = .ok (.iadd, 1) := by decide +kernel
theorem dX10_two_59 : decode cX10_two 59 = .ok (.ireturn, 1) := by decide +kernel
theorem dX10_moment_0 : decode cX10_moment 0 = .ok (.aload_n 0, 1) := by decide +kernel
theorem dX10_moment_1 : decode cX10_moment 1 = .ok (.iconst 0, 1) := by decide +kernel
theorem dX10_moment_2 : decode cX10_moment 2 = .ok (.putfield 45, 3) := by decide +kernel
theorem dX10_moment_5 : decode cX10_moment 5 = .ok (.aload_n 0, 1) := by decide +kernel
theorem dX10_moment_6 : decode cX10_moment 6 = .ok (.invokevirtual 169, 3) := by decide +kernel
theorem dX10_moment_9 : decode cX10_moment 9 = .ok (.iconst 0, 1) := by decide +kernel
theorem dX10_moment_10 : decode cX10_moment 10 = .ok (.istore_n 2, 1) := by decide +kernel
theorem dX10_moment_11 : decode cX10_moment 11 = .ok (.iconst 0, 1) := by decide +kernel
theorem dX10_moment_12 : decode cX10_moment 12 = .ok (.istore_n 3, 1) := by decide +kernel
theorem dX10_moment_13 : decode cX10_moment 13 = .ok (.iload_n 3, 1) := by decide +kernel
theorem dX10_moment_14 : decode cX10_moment 14 = .ok (.iconst 4, 1) := by decide +kernel
theorem dX10_moment_15 : decode cX10_moment 15 = .ok (.if_icmp .ge 35, 3) := by decide +kernel
theorem dX10_moment_18 : decode cX10_moment 18 = .ok (.bipush 10, 2) := by decide +kernel
theorem dX10_moment_20 : decode cX10_moment 20 = .ok (.iload_n 2, 1) := by decide +kernel
theorem dX10_moment_21 : decode cX10_moment 21 = .ok (.imul, 1) := by decide +kernel
theorem dX10_moment_22 : decode cX10_moment 22 = .ok (.aload_n 0, 1) := by decide +kernel
theorem dX10_moment_23 : decode cX10_moment 23 = .ok (.iload_n 3, 1) := by decide +kernel
theorem dX10_moment_24 : decode cX10_moment 24 = .ok (.iconst 3, 1) := by decide +kernel
theorem dX10_moment_25 : decode cX10_moment 25 = .ok (.if_icmp .ne 11, 3) := by decide +kernel
theorem dX10_moment_28 : decode cX10_moment 28 = .ok (.iload_n 2, 1) := by decide +kernel
theorem dX10_moment_29 : decode cX10_moment 29 = .ok (.ifCond .ne 7, 3) := by decide +kernel
theorem dX10_moment_32 : decode cX10_moment 32 = .ok (.iconst 1, 1) := by decide +kernel
theorem dX10_moment_33 : decode cX10_moment 33 = .ok (.goto 4, 3) := by decide +kernel
theorem dX10_moment_36 : decode cX10_moment 36 = .ok (.iconst 0, 1) := by decide +kernel
theorem dX10_moment_37 : decode cX10_moment 37 = .ok (.bipush 9, 2) := by decide +kernel
theorem dX10_moment_39 : decode cX10_moment 39 = .ok (.invokevirtual 166, 3) := by decide +kernel
theorem dX10_moment_42 : decode cX10_moment 42 = .ok (.iadd, 1) := by decide +kernel
theorem dX10_moment_43 : decode cX10_moment 43 = .ok (.istore_n 2, 1) := by decide +kernel
theorem dX10_moment_44 : decode cX10_moment 44 = .ok (.iinc 3 1, 3) := by decide +kernel
theorem dX10_moment_47 : decode cX10_moment 47 = .ok (.goto (-34), 3) := by decide +kernel
theorem dX10_moment_50 : decode cX10_moment 50 = .ok (.aload_n 0, 1) := by decide +kernel
theorem dX10_moment_51 : decode cX10_moment 51 = .ok (.bipush 45, 2) := by decide +kernel
theorem dX10_moment_53 : decode cX10_moment 53 = .ok (.invokevirtual 172, 3) := by decide +kernel
theorem dX10_moment_56 : decode cX10_moment 56 = .ok (.aload_n 0, 1) := by decide +kernel
theorem dX10_moment_57 : decode cX10_moment 57 = .ok (.iconst 1, 1) := by decide +kernel
theorem dX10_moment_58 : decode cX10_moment 58 = .ok (.bipush 12, 2) := by decide +kernel
theorem dX10_moment_60 : decode cX10_moment 60 = .ok (.invokevirtual 176, 3) := by decide +kernel
theorem dX10_moment_63 : decode cX10_moment 63 = .ok (.istore_n 3, 1) := by decide +kernel
theorem dX10_moment_64 : decode cX10_moment 64 = .ok (.aload_n 0, 1) := by decide +kernel
theorem dX10_moment_65 : decode cX10_moment 65 = .ok (.bipush 45, 2) := by decide +kernel
theorem dX10_moment_67 : decode cX10_moment 67 = .ok (.invokevirtual 172, 3) := by decide +kernel
theorem dX10_moment_70 : decode cX10_moment 70 = .ok (.aload_n 0, 1) := by decide +kernel
theorem dX10_moment_71 : decode cX10_moment 71 = .ok (.iconst 1, 1) := by decide +kernel
theorem dX10_moment_72 : decode cX10_moment 72 = .ok (.aload_n 0, 1) := by decide +kernel
theorem dX10_moment_73 : decode cX10_moment 73 = .ok (.getfield 156, 3) := by decide +kernel
theorem dX10_moment_76 : decode cX10_moment 76 = .ok (.iconst (-1), 1) := by decide +kernel
theorem dX10_moment_77 : decode cX10_moment 77 = .ok (.if_icmp .ne 11, 3) := by decide +kernel
theorem dX10_moment_80 : decode cX10_moment 80 = .ok (.iload_n 2, 1) := by decide +kernel
theorem dX10_moment_81 : decode cX10_moment 81 = .ok (.iload_n 3, 1) := by decide +kernel
theorem dX10_moment_82 : decode cX10_moment 82 = .ok (.invokestatic 111, 3) := by decide +kernel
theorem dX10_moment_85 : decode cX10_moment 85 = .ok (.goto 5, 3) := by decide +kernel
theorem dX10_moment_88 : decode cX10_moment 88 = .ok (.bipush 28, 2) := by decide +kernel
theorem dX10_moment_90 : decode cX10_moment 90 = .ok (.invokevirtual 176, 3) := by decide +kernel
theorem dX10_moment_93 : decode cX10_moment 93 = .ok (.istore 4, 2) := by decide +kernel
theorem dX10_moment_95 : decode cX10_moment 95 = .ok (.iconst 0, 1) := by decide +kernel
theorem dX10_moment_96 : decode cX10_moment 96 = .ok (.istore 5, 2) := by decide +kernel
theorem dX10_moment_98 : decode cX10_moment 98 = .ok (.aload_n 0, 1) := by decide +kernel
theorem dX10_moment_99 : decode cX10_moment 99 = .ok (.getfield 156, 3) := by decide +kernel
theorem dX10_moment_102 : decode cX10_moment 102 = .ok (.iconst (-1), 1) := by decide +kernel
theorem dX10_moment_103 : decode cX10_moment 103 = .ok (.if_icmp .ne 74, 3) := by decide +kernel
theorem dX10_moment_106 : decode cX10_moment 106 = .ok (.aload_n 0, 1) := by decide +kernel
theorem dX10_moment_107 : decode cX10_moment 107 = .ok (.invokevirtual 159, 3) := by decide +kernel
theorem dX10_moment_110 : decode cX10_moment 110 = .ok (.bipush 84, 2) := by decide +kernel
theorem dX10_moment_112 : decode cX10_moment 112 = .ok (.if_icmp .ne 65, 3) := by decide +kernel
theorem dX10_moment_115 : decode cX10_moment 115 = .ok (.aload_n 0, 1) := by decide +kernel
theorem dX10_moment_116 : decode cX10_moment 116 = .ok (.dup, 1) := by decide +kernel
theorem dX10_moment_117 : decode cX10_moment 117 = .ok (.getfield 153, 3) := by decide +kernel
theorem dX10_moment_120 : decode cX10_moment 120 = .ok (.iconst 1, 1) := by decide +kernel
theorem dX10_moment_121 : decode cX10_moment 121 = .ok (.iadd, 1) := by decide +kernel
theorem dX10_moment_122 : decode cX10_moment 122 = .ok (.putfield 153, 3) := by decide +kernel
theorem dX10_moment_125 : decode cX10_moment 125 = .ok (.sipush 3600, 3) := by decide +kernel
theorem dX10_moment_128 : decode cX10_moment 128 = .ok (.aload_n 0, 1) := by decide +kernel
theorem dX10_moment_129 : decode cX10_moment 129 = .ok (.iconst 0, 1) := by decide +kernel
theorem dX10_moment_130 : decode cX10_moment 130 = .ok (.bipush 23, 2) := by decide +kernel
theorem dX10_moment_132 : decode cX10_moment 132 = .ok (.invokevirtual 176, 3) := by decide +kernel
theorem dX10_moment_135 : decode cX10_moment 135 = .ok (.imul, 1) := by decide +kernel
theorem dX10_moment_136 : decode cX10_moment 136 = .ok (.istore 5, 2) := by decide +kernel
theorem dX10_moment_138 : decode cX10_moment 138 = .ok (.aload_n 0, 1) := by decide +kernel
theorem dX10_moment_139 : decode cX10_moment 139 = .ok (.bipush 58, 2) := by decide +kernel
theorem dX10_moment_141 : decode cX10_moment 141 = .ok (.invokevirtual 172, 3) := by decide +kernel
theorem dX10_moment_144 : decode cX10_moment 144 = .ok (.iload 5, 2) := by decide +kernel
theorem dX10_moment_146 : decode cX10_moment 146 = .ok (.bipush 60, 2) := by decide +kernel
theorem dX10_moment_148 : decode cX10_moment 148 = .ok (.aload_n 0, 1) := by decide +kernel
theorem dX10_moment_149 : decode cX10_moment 149 = .ok (.iconst 0, 1) := by decide +kernel
theorem dX10_moment_150 : decode cX10_moment 150 = .ok (.bipush 59, 2) := by decide +kernel
theorem dX10_moment_152 : decode cX10_moment 152 = .ok (.invokevirtual 176, 3) := by decide +kernel
theorem dX10_moment_155 : decode cX10_moment 155 = .ok (.imul, 1) := by decide +kernel
theorem dX10_moment_156 : decode cX10_moment 156 = .ok (.iadd, 1) := by decide +kernel
theorem dX10_moment_157 : decode cX10_moment 157 = .ok (.istore 5, 2) := by decide +kernel
theorem dX10_moment_159 : decode cX10_moment 159 = .ok (.aload_n 0, 1) := by decide +kernel
theorem dX10_moment_160 : decode cX10_moment 160 = .ok (.bipush 58, 2) := by decide +kernel
theorem dX10_moment_162 : decode cX10_moment 162 = .ok (.invokevirtual 172, 3) := by decide +kernel
theorem dX10_moment_165 : decode cX10_moment 165 = .ok (.iload 5, 2) := by decide +kernel
theorem dX10_moment_167 : decode cX10_moment 167 = .ok (.aload_n 0, 1) := by decide +kernel
theorem dX10_moment_168 : decode cX10_moment 168 = .ok (.iconst 0, 1) := by decide +kernel
theorem dX10_moment_169 : decode cX10_moment 169 = .ok (.bipush 59, 2) := by decide +kernel
theorem dX10_moment_171 : decode cX10_moment 171 = .ok (.invokevirtual 176, 3) := by decide +kernel
theorem dX10_moment_174 : decode cX10_moment 174 = .ok (.iadd, 1) := by decide +kernel
theorem dX10_moment_175 : decode cX10_moment 175 = .ok (.istore 5, 2) := by decide +kernel
theorem dX10_moment_177 : decode cX10_moment 177 = .ok (.aload_n 0, 1) := by decide +kernel
theorem dX10_moment_178 : decode cX10_moment 178 = .ok (.getfield 156, 3) := by decide +kernel
theorem dX10_moment_181 : decode cX10_moment 181 = .ok (.iconst (-1), 1) := by decide +kernel
theorem dX10_moment_182 : decode cX10_moment 182 = .ok (.if_icmp .ne 22, 3) := by decide +kernel
theorem dX10_moment_185 : decode cX10_moment 185 = .ok (.aload_n 0, 1) := by decide +kernel
theorem dX10_moment_186 : decode cX10_moment 186 = .ok (.getfield 153, 3) := by decide +kernel
theorem dX10_moment_189 : decode cX10_moment 189 = .ok (.aload_n 0, 1) := by decide +kernel
theorem dX10_moment_190 : decode cX10_moment 190 = .ok (.getfield 150, 3) := by decide +kernel
theorem dX10_moment_193 : decode cX10_moment 193 = .ok (.if_icmp .ge 11, 3) := by decide +kernel
theorem dX10_moment_196 : decode cX10_moment 196 = .ok (.aload_n 0, 1) := by decide +kernel
theorem dX10_moment_197 : decode cX10_moment 197 = .ok (.aload_n 0, 1) := by decide +kernel
theorem dX10_moment_198 : decode cX10_moment 198 = .ok (.getfield 153, 3) := by decide +kernel
theorem dX10_moment_201 : decode cX10_moment 201 = .ok (.invokevirtual 163, 3) := by decide +kernel
theorem dX10_moment_204 : decode cX10_moment 204 = .ok (.aload_n 0, 1) := by decide +kernel
theorem dX10_moment_205 : decode cX10_moment 205 = .ok (.getfield 156, 3) := by decide +kernel
theorem dX10_moment_208 : decode cX10_moment 208 = .ok (.iconst (-1), 1) := by decide +kernel
theorem dX10_moment_209 : decode cX10_moment 209 = .ok (.if_icmp .eq 11, 3) := by decide +kernel
theorem dX10_moment_212 : decode cX10_moment 212 = .ok (.bipush (-21), 2) := by decide +kernel
theorem dX10_moment_214 : decode cX10_moment 214 = .ok (.aload_n 0, 1) := by decide +kernel
theorem dX10_moment_215 : decode cX10_moment 215 = .ok (.getfield 156, 3) := by decide +kernel
theorem dX10_moment_218 : decode cX10_moment 218 = .ok (.isub, 1) := by decide +kernel
theorem dX10_moment_219 : decode cX10_moment 219 = .ok (.ireturn, 1) := by decide +kernel
theorem dX10_moment_220 : decode cX10_moment 220 = .ok (.iload_n 1, 1) := by decide +kernel
theorem dX10_moment_221 : decode cX10_moment 221 = .ok (.invokestatic 179, 3) := by decide +kernel
theorem dX10_moment_224 : decode cX10_moment 224 = .ok (.ifCond .ne 5, 3) := by decide +kernel
theorem dX10_moment_227 : decode cX10_moment 227 = .ok (.iconst (-1), 1) := by decide +kernel
theorem dX10_moment_228 : decode cX10_moment 228 = .ok (.ireturn, 1) := by decide +kernel
theorem dX10_moment_229 : decode cX10_moment 229 = .ok (.aload_n 0, 1) := by decide +kernel
theorem dX10_moment_230 : decode cX10_moment 230 = .ok (.iload_n 2, 1) := by decide +kernel
theorem dX10_moment_231 : decode cX10_moment 231 = .ok (.iload_n 3, 1) := by decide +kernel
theorem dX10_moment_232 : decode cX10_moment 232 = .ok (.iload 4, 2) := by decide +kernel
theorem dX10_moment_234 : decode cX10_moment 234 = .ok (.invokestatic 90, 3) := by decide +kernel
theorem dX10_moment_237 : decode cX10_moment 237 = .ok (.iload 5, 2) := by decide +kernel
theorem dX10_moment_239 : decode cX10_moment 239 = .ok (.invokevirtual 146, 3) := by decide +kernel
theorem dX10_moment_242 : decode cX10_moment 242 = .ok (.aload_n 0, 1) := by decide +kernel
theorem dX10_moment_243 : decode cX10_moment 243 = .ok (.iload_n 1, 1) := by decide +kernel
theorem dX10_moment_244 : decode cX10_moment 244 = .ok (.invokevirtual 182, 3) := by decide +kernel
theorem dX10_moment_247 : decode cX10_moment 247 = .ok (.aload_n 0, 1) := by decide +kernel
theorem dX10_moment_248 : decode cX10_moment 248 = .ok (.getfield 104, 3) := by decide +kernel
theorem dX10_moment_251 : decode cX10_moment 251 = .ok (.ireturn, 1) := by decide +kernel
theorem dX10_sets_0 : decode cX10_sets 0 = .ok (.aload_n 0, 1) := by decide +kernel
theorem dX10_sets_1 : decode cX10_sets 1 = .ok (.iconst 0, 1) := by decide +kernel
theorem dX10_sets_2 : decode cX10_sets 2 = .ok (.putfield 45, 3) := by decide +kernel
theorem dX10_sets_5 : decode cX10_sets 5 = .ok (.iload_n 1, 1) := by decide +kernel
theorem dX10_sets_6 : decode cX10_sets 6 = .ok (.invokestatic 179, 3) := by decide +kernel
theorem dX10_sets_9 : decode cX10_sets 9 = .ok (.ifCond .eq 23, 3) := by decide +kernel
theorem dX10_sets_12 : decode cX10_sets 12 = .ok (.iload_n 2, 1) := by decide +kernel
theorem dX10_sets_13 : decode cX10_sets 13 = .ok (.i2l, 1) := by decide +kernel
theorem dX10_sets_14 : decode cX10_sets 14 = .ok (.invokestatic 123, 3) := by decide +kernel
theorem dX10_sets_17 : decode cX10_sets 17 = .ok (.ifCond .eq 15, 3) := by decide +kernel
theorem dX10_sets_20 : decode cX10_sets 20 = .ok (.iload_n 3, 1) := by decide +kernel
theorem dX10_sets_21 : decode cX10_sets 21 = .ok (.i2l, 1) := by decide +kernel
theorem dX10_sets_22 : decode cX10_sets 22 = .ok (.lconst 0, 1) := by decide +kernel
theorem dX10_sets_23 : decode cX10_sets 23 = .ok (.ldc2_w 185, 3) := by decide +kernel
theorem dX10_sets_26 : decode cX10_sets 26 = .ok (.invokestatic 54, 3) := by decide +kernel
theorem dX10_sets_29 : decode cX10_sets 29 = .ok (.ifCond .ne 5, 3) := by decide +kernel
theorem dX10_sets_32 : decode cX10_sets 32 = .ok (.iconst (-1), 1) := by decide +kernel
theorem dX10_sets_33 : decode cX10_sets 33 = .ok (.ireturn, 1) := by decide +kernel
theorem dX10_sets_34 : decode cX10_sets 34 = .ok (.aload_n 0, 1) := by decide +kernel
theorem dX10_sets_35 : decode cX10_sets 35 = .ok (.getfield 9, 3) := by decide +kernel
theorem dX10_sets_38 : decode cX10_sets 38 = .ok (.iload_n 1, 1) := by decide +kernel
theorem dX10_sets_39 : decode cX10_sets 39 = .ok (.iaload, 1) := by decide +kernel
theorem dX10_sets_40 : decode cX10_sets 40 = .ok (.istore 4, 2) := by decide +kernel
theorem dX10_sets_42 : decode cX10_sets 42 = .ok (.aload_n 0, 1) := by decide +kernel
theorem dX10_sets_43 : decode cX10_sets 43 = .ok (.iload_n 2, 1) := by decide +kernel
theorem dX10_sets_44 : decode cX10_sets 44 = .ok (.iload_n 3, 1) := by decide +kernel
theorem dX10_sets_45 : decode cX10_sets 45 = .ok (.invokevirtual 146, 3) := by decide +kernel
theorem dX10_sets_48 : decode cX10_sets 48 = .ok (.aload_n 0, 1) := by decide +kernel
theorem dX10_sets_49 : decode cX10_sets 49 = .ok (.iload_n 1, 1) := by decide +kernel
theorem dX10_sets_50 : decode cX10_sets 50 = .ok (.invokevirtual 182, 3) := by decide +kernel
theorem dX10_sets_53 : decode cX10_sets 53 = .ok (.iload 4, 2) := by decide +kernel
theorem dX10_sets_55 : decode cX10_sets 55 = .ok (.ireturn, 1) := by decide +kernel
theorem dX10_letter_0 : decode cX10_letter 0 = .ok (.ldc 187, 2) := by decide +kernel
theorem dX10_letter_2 : decode cX10_letter 2 = .ok (.iload_n 0, 1) := by decide +kernel
theorem dX10_letter_3 : decode cX10_letter 3 = .ok (.invokevirtual 189, 3) := by decide +kernel
theorem dX10_letter_6 : decode cX10_letter 6 = .ok (.ireturn, 1) := by decide +kernel
theorem dX10_counts_0 : decode cX10_counts 0 = .ok (.iload_n 0, 1) := by decide +kernel
theorem dX10_counts_1 : decode cX10_counts 1 = .ok (.tableswitch 52 0 5 #[39, 52, 42, 52, 45, 49], 39) := by decide +kernel
theorem dX10_counts_40 : decode cX10_counts 40 = .ok (.bipush 12, 2) := by decide +kernel
theorem dX10_counts_42 : decode cX10_counts 42 = .ok (.ireturn, 1) := by decide +kernel
theorem dX10_counts_43 : decode cX10_counts 43 = .ok (.bipush 7, 2) := by decide +kernel
theorem dX10_counts_45 : decode cX10_counts 45 = .ok (.ireturn, 1) := by decide +kernel
theorem dX10_counts_46 : decode cX10_counts 46 = .ok (.sipush 3600, 3) := by decide +kernel
theorem dX10_counts_49 : decode cX10_counts 49 = .ok (.ireturn, 1) := by decide +kernel
theorem dX10_counts_50 : decode cX10_counts 50 = .ok (.bipush 60, 2) := by decide +kernel
theorem dX10_counts_52 : decode cX10_counts 52 = .ok (.ireturn, 1) := by decide +kernel
theorem dX10_counts_53 : decode cX10_counts 53 = .ok (.iconst 1, 1) := by decide +kernel
theorem dX10_counts_54 : decode cX10_counts 54 = .ok (.ireturn, 1) := by decide +kernel
theorem dX10_partOf_0 : decode cX10_partOf 0 = .ok (.iload_n 0, 1) := by decide +kernel
theorem dX10_partOf_1 : decode cX10_partOf 1 = .ok (.iconst 2, 1) := by decide +kernel
theorem dX10_partOf_2 : decode cX10_partOf 2 = .ok (.if_icmp .ge 7, 3) := by decide +kernel
theorem dX10_partOf_5 : decode cX10_partOf 5 = .ok (.iconst 0, 1) := by decide +kernel
theorem dX10_partOf_6 : decode cX10_partOf 6 = .ok (.goto 13, 3) := by decide +kernel
theorem dX10_partOf_9 : decode cX10_partOf 9 = .ok (.iload_n 0, 1) := by decide +kernel
theorem dX10_partOf_10 : decode cX10_partOf 10 = .ok (.iconst 4, 1) := by decide +kernel
theorem dX10_partOf_11 : decode cX10_partOf 11 = .ok (.if_icmp .ge 7, 3) := by decide +kernel
