theorem dJ9_max_7cf53_0 : decode cJ9_max_7cf53 0 = .ok (.iload_n 0, 1) := by decide +kernel
theorem dJ9_max_7cf53_1 : decode cJ9_max_7cf53 1 = .ok (.iload_n 1, 1) := by decide +kernel
theorem dJ9_max_7cf53_2 : decode cJ9_max_7cf53 2 = .ok (.if_icmp .lt 7, 3) := by decide +kernel
theorem dJ9_max_7cf53_5 : decode cJ9_max_7cf53 5 = .ok (.iload_n 0, 1) := by decide +kernel
theorem dJ9_max_7cf53_6 : decode cJ9_max_7cf53 6 = .ok (.goto 4, 3) := by decide +kernel
theorem dJ9_max_7cf53_9 : decode cJ9_max_7cf53 9 = .ok (.iload_n 1, 1) := by decide +kernel
theorem dJ9_max_7cf53_10 : decode cJ9_max_7cf53 10 = .ok (.ireturn, 1) := by decide +kernel
theorem dL_setRule_0 : decode cL_setRule 0 = .ok (.aload_n 2, 1) := by decide +kernel
theorem dL_setRule_1 : decode cL_setRule 1 = .ok (.iconst 0, 1) := by decide +kernel
theorem dL_setRule_2 : decode cL_setRule 2 = .ok (.aload_n 0, 1) := by decide +kernel
theorem dL_setRule_3 : decode cL_setRule 3 = .ok (.iload_n 1, 1) := by decide +kernel
theorem dL_setRule_4 : decode cL_setRule 4 = .ok (.invokevirtual 7, 3) := by decide +kernel
theorem dL_setRule_7 : decode cL_setRule 7 = .ok (.i2l, 1) := by decide +kernel
theorem dL_setRule_8 : decode cL_setRule 8 = .ok (.lastore, 1) := by decide +kernel
theorem dL_setRule_9 : decode cL_setRule 9 = .ok (.goto 9, 3) := by decide +kernel
theorem dL_setRule_12 : decode cL_setRule 12 = .ok (.astore_n 3, 1) := by decide +kernel
theorem dL_setRule_13 : decode cL_setRule 13 = .ok (.iconst 1, 1) := by decide +kernel
theorem dL_setRule_14 : decode cL_setRule 14 = .ok (.ireturn, 1) := by decide +kernel
theorem dL_setRule_15 : decode cL_setRule 15 = .ok (.astore_n 3, 1) := by decide +kernel
theorem dL_setRule_16 : decode cL_setRule 16 = .ok (.iconst 2, 1) := by decide +kernel
theorem dL_setRule_17 : decode cL_setRule 17 = .ok (.ireturn, 1) := by decide +kernel
theorem dL_setRule_18 : decode cL_setRule 18 = .ok (.iconst 0, 1) := by decide +kernel
theorem dL_setRule_19 : decode cL_setRule 19 = .ok (.ireturn, 1) := by decide +kernel
theorem dL_set_0 : decode cL_set 0 = .ok (.aload 5, 2) := by decide +kernel
theorem dL_set_2 : decode cL_set 2 = .ok (.iconst 0, 1) := by decide +kernel
theorem dL_set_3 : decode cL_set 3 = .ok (.aload_n 0, 1) := by decide +kernel
theorem dL_set_4 : decode cL_set 4 = .ok (.iload_n 1, 1) := by decide +kernel
theorem dL_set_5 : decode cL_set 5 = .ok (.iload_n 2, 1) := by decide +kernel
theorem dL_set_6 : decode cL_set 6 = .ok (.iload_n 3, 1) := by decide +kernel
theorem dL_set_7 : decode cL_set 7 = .ok (.iload 4, 2) := by decide +kernel
theorem dL_set_9 : decode cL_set 9 = .ok (.invokevirtual 17, 3) := by decide +kernel
theorem dL_set_12 : decode cL_set 12 = .ok (.i2l, 1) := by decide +kernel
theorem dL_set_13 : decode cL_set 13 = .ok (.lastore, 1) := by decide +kernel
theorem dL_set_14 : decode cL_set 14 = .ok (.goto 15, 3) := by decide +kernel
theorem dL_set_17 : decode cL_set 17 = .ok (.astore 6, 2) := by decide +kernel
theorem dL_set_19 : decode cL_set 19 = .ok (.iconst 1, 1) := by decide +kernel
theorem dL_set_20 : decode cL_set 20 = .ok (.ireturn, 1) := by decide +kernel
theorem dL_set_21 : decode cL_set 21 = .ok (.astore 6, 2) := by decide +kernel
theorem dL_set_23 : decode cL_set 23 = .ok (.iconst 2, 1) := by decide +kernel
theorem dL_set_24 : decode cL_set 24 = .ok (.ireturn, 1) := by decide +kernel
theorem dL_set_25 : decode cL_set 25 = .ok (.astore 6, 2) := by decide +kernel
theorem dL_set_27 : decode cL_set 27 = .ok (.iconst 3, 1) := by decide +kernel
theorem dL_set_28 : decode cL_set 28 = .ok (.ireturn, 1) := by decide +kernel
theorem dL_set_29 : decode cL_set 29 = .ok (.iconst 0, 1) := by decide +kernel
theorem dL_set_30 : decode cL_set 30 = .ok (.ireturn, 1) := by decide +kernel
theorem dL_strike_0 : decode cL_strike 0 = .ok (.aload_n 3, 1) := by decide +kernel
theorem dL_strike_1 : decode cL_strike 1 = .ok (.iconst 0, 1) := by decide +kernel
theorem dL_strike_2 : decode cL_strike 2 = .ok (.aload_n 0, 1) := by decide +kernel
theorem dL_strike_3 : decode cL_strike 3 = .ok (.iload_n 1, 1) := by decide +kernel
theorem dL_strike_4 : decode cL_strike 4 = .ok (.iload_n 2, 1) := by decide +kernel
theorem dL_strike_5 : decode cL_strike 5 = .ok (.invokevirtual 23, 3) := by decide +kernel
theorem dL_strike_8 : decode cL_strike 8 = .ok (.i2l, 1) := by decide +kernel
theorem dL_strike_9 : decode cL_strike 9 = .ok (.lastore, 1) := by decide +kernel
theorem dL_strike_10 : decode cL_strike 10 = .ok (.goto 11, 3) := by decide +kernel
theorem dL_strike_13 : decode cL_strike 13 = .ok (.astore 4, 2) := by decide +kernel
theorem dL_strike_15 : decode cL_strike 15 = .ok (.iconst 1, 1) := by decide +kernel
theorem dL_strike_16 : decode cL_strike 16 = .ok (.ireturn, 1) := by decide +kernel
theorem dL_strike_17 : decode cL_strike 17 = .ok (.astore 4, 2) := by decide +kernel
theorem dL_strike_19 : decode cL_strike 19 = .ok (.iconst 2, 1) := by decide +kernel
theorem dL_strike_20 : decode cL_strike 20 = .ok (.ireturn, 1) := by decide +kernel
theorem dL_strike_21 : decode cL_strike 21 = .ok (.iconst 0, 1) := by decide +kernel
theorem dL_strike_22 : decode cL_strike 22 = .ok (.ireturn, 1) := by decide +kernel
theorem dL_undo_0 : decode cL_undo 0 = .ok (.aload_n 2, 1) := by decide +kernel
theorem dL_undo_1 : decode cL_undo 1 = .ok (.iconst 0, 1) := by decide +kernel
theorem dL_undo_2 : decode cL_undo 2 = .ok (.aload_n 0, 1) := by decide +kernel
theorem dL_undo_3 : decode cL_undo 3 = .ok (.iload_n 1, 1) := by decide +kernel
theorem dL_undo_4 : decode cL_undo 4 = .ok (.invokevirtual 27, 3) := by decide +kernel
theorem dL_undo_7 : decode cL_undo 7 = .ok (.i2l, 1) := by decide +kernel
theorem dL_undo_8 : decode cL_undo 8 = .ok (.lastore, 1) := by decide +kernel
theorem dL_undo_9 : decode cL_undo 9 = .ok (.goto 9, 3) := by decide +kernel
theorem dL_undo_12 : decode cL_undo 12 = .ok (.astore_n 3, 1) := by decide +kernel
theorem dL_undo_13 : decode cL_undo 13 = .ok (.iconst 1, 1) := by decide +kernel
theorem dL_undo_14 : decode cL_undo 14 = .ok (.ireturn, 1) := by decide +kernel
theorem dL_undo_15 : decode cL_undo 15 = .ok (.astore_n 3, 1) := by decide +kernel
theorem dL_undo_16 : decode cL_undo 16 = .ok (.iconst 2, 1) := by decide +kernel
theorem dL_undo_17 : decode cL_undo 17 = .ok (.ireturn, 1) := by decide +kernel
theorem dL_undo_18 : decode cL_undo 18 = .ok (.iconst 0, 1) := by decide +kernel
theorem dL_undo_19 : decode cL_undo 19 = .ok (.ireturn, 1) := by decide +kernel
theorem dL_come_0 : decode cL_come 0 = .ok (.aload_n 2, 1) := by decide +kernel
theorem dL_come_1 : decode cL_come 1 = .ok (.iconst 0, 1) := by decide +kernel
theorem dL_come_2 : decode cL_come 2 = .ok (.aload_n 0, 1) := by decide +kernel
theorem dL_come_3 : decode cL_come 3 = .ok (.iload_n 1, 1) := by decide +kernel
theorem dL_come_4 : decode cL_come 4 = .ok (.invokevirtual 30, 3) := by decide +kernel
theorem dL_come_7 : decode cL_come 7 = .ok (.i2l, 1) := by decide +kernel
theorem dL_come_8 : decode cL_come 8 = .ok (.lastore, 1) := by decide +kernel
theorem dL_come_9 : decode cL_come 9 = .ok (.goto 9, 3) := by decide +kernel
theorem dL_come_12 : decode cL_come 12 = .ok (.astore_n 3, 1) := by decide +kernel
theorem dL_come_13 : decode cL_come 13 = .ok (.iconst 1, 1) := by decide +kernel
theorem dL_come_14 : decode cL_come 14 = .ok (.ireturn, 1) := by decide +kernel
theorem dL_come_15 : decode cL_come 15 = .ok (.astore_n 3, 1) := by decide +kernel
theorem dL_come_16 : decode cL_come 16 = .ok (.iconst 2, 1) := by decide +kernel
theorem dL_come_17 : decode cL_come 17 = .ok (.ireturn, 1) := by decide +kernel
theorem dL_come_18 : decode cL_come 18 = .ok (.iconst 0, 1) := by decide +kernel
theorem dL_come_19 : decode cL_come 19 = .ok (.ireturn, 1) := by decide +kernel
theorem dL_letter_0 : decode cL_letter 0 = .ok (.aload_n 3, 1) := by decide +kernel
theorem dL_letter_1 : decode cL_letter 1 = .ok (.iconst 0, 1) := by decide +kernel
theorem dL_letter_2 : decode cL_letter 2 = .ok (.aload_n 0, 1) := by decide +kernel
theorem dL_letter_3 : decode cL_letter 3 = .ok (.iload_n 1, 1) := by decide +kernel
theorem dL_letter_4 : decode cL_letter 4 = .ok (.iload_n 2, 1) := by decide +kernel
theorem dL_letter_5 : decode cL_letter 5 = .ok (.invokevirtual 33, 3) := by decide +kernel
theorem dL_letter_8 : decode cL_letter 8 = .ok (.i2l, 1) := by decide +kernel
theorem dL_letter_9 : decode cL_letter 9 = .ok (.lastore, 1) := by decide +kernel
theorem dL_letter_10 : decode cL_letter 10 = .ok (.goto 7, 3) := by decide +kernel
theorem dL_letter_13 : decode cL_letter 13 = .ok (.astore 4, 2) := by decide +kernel
theorem dL_letter_15 : decode cL_letter 15 = .ok (.iconst 1, 1) := by decide +kernel
theorem dL_letter_16 : decode cL_letter 16 = .ok (.ireturn, 1) := by decide +kernel
theorem dL_letter_17 : decode cL_letter 17 = .ok (.iconst 0, 1) := by decide +kernel
theorem dL_letter_18 : decode cL_letter 18 = .ok (.ireturn, 1) := by decide +kernel
theorem dL_author_0 : decode cL_author 0 = .ok (.aload_n 3, 1) := by decide +kernel
theorem dL_author_1 : decode cL_author 1 = .ok (.iconst 0, 1) := by decide +kernel
theorem dL_author_2 : decode cL_author 2 = .ok (.aload_n 0, 1) := by decide +kernel
theorem dL_author_3 : decode cL_author 3 = .ok (.iload_n 1, 1) := by decide +kernel
theorem dL_author_4 : decode cL_author 4 = .ok (.iload_n 2, 1) := by decide +kernel
theorem dL_author_5 : decode cL_author 5 = .ok (.invokevirtual 36, 3) := by decide +kernel
theorem dL_author_8 : decode cL_author 8 = .ok (.i2l, 1) := by decide +kernel
theorem dL_author_9 : decode cL_author 9 = .ok (.lastore, 1) := by decide +kernel
theorem dL_author_10 : decode cL_author 10 = .ok (.goto 7, 3) := by decide +kernel
theorem dL_author_13 : decode cL_author 13 = .ok (.astore 4, 2) := by decide +kernel
theorem dL_author_15 : decode cL_author 15 = .ok (.iconst 1, 1) := by decide +kernel
theorem dL_author_16 : decode cL_author 16 = .ok (.ireturn, 1) := by decide +kernel
theorem dL_author_17 : decode cL_author 17 = .ok (.iconst 0, 1) := by decide +kernel
theorem dL_author_18 : decode cL_author 18 = .ok (.ireturn, 1) := by decide +kernel
theorem dL_about_0 : decode cL_about 0 = .ok (.aload_n 3, 1) := by decide +kernel
theorem dL_about_1 : decode cL_about 1 = .ok (.iconst 0, 1) := by decide +kernel
theorem dL_about_2 : decode cL_about 2 = .ok (.aload_n 0, 1) := by decide +kernel
theorem dL_about_3 : decode cL_about 3 = .ok (.iload_n 1, 1) := by decide +kernel
theorem dL_about_4 : decode cL_about 4 = .ok (.iload_n 2, 1) := by decide +kernel
theorem dL_about_5 : decode cL_about 5 = .ok (.invokevirtual 39, 3) := by decide +kernel
theorem dL_about_8 : decode cL_about 8 = .ok (.i2l, 1) := by decide +kernel
theorem dL_about_9 : decode cL_about 9 = .ok (.lastore, 1) := by decide +kernel
theorem dL_about_10 : decode cL_about 10 = .ok (.goto 7, 3) := by decide +kernel
theorem dL_about_13 : decode cL_about 13 = .ok (.astore 4, 2) := by decide +kernel
theorem dL_about_15 : decode cL_about 15 = .ok (.iconst 1, 1) := by decide +kernel
theorem dL_about_16 : decode cL_about 16 = .ok (.ireturn, 1) := by decide +kernel
theorem dL_about_17 : decode cL_about 17 = .ok (.iconst 0, 1) := by decide +kernel
theorem dL_about_18 : decode cL_about 18 = .ok (.ireturn, 1) := by decide +kernel
theorem dL_way_0 : decode cL_way 0 = .ok (.aload 4, 2) := by decide +kernel
theorem dL_way_2 : decode cL_way 2 = .ok (.iconst 0, 1) := by decide +kernel
theorem dL_way_3 : decode cL_way 3 = .ok (.aload_n 0, 1) := by decide +kernel
theorem dL_way_4 : decode cL_way 4 = .ok (.iload_n 1, 1) := by decide +kernel
theorem dL_way_5 : decode cL_way 5 = .ok (.iload_n 2, 1) := by decide +kernel
theorem dL_way_6 : decode cL_way 6 = .ok (.iload_n 3, 1) := by decide +kernel
theorem dL_way_7 : decode cL_way 7 = .ok (.invokevirtual 42, 3) := by decide +kernel
theorem dL_way_10 : decode cL_way 10 = .ok (.i2l, 1) := by decide +kernel
theorem dL_way_11 : decode cL_way 11 = .ok (.lastore, 1) := by decide +kernel
theorem dL_way_12 : decode cL_way 12 = .ok (.goto 7, 3) := by decide +kernel
theorem dL_way_15 : decode cL_way 15 = .ok (.astore 5, 2) := by decide +kernel
theorem dL_way_17 : decode cL_way 17 = .ok (.iconst 1, 1) := by decide +kernel
theorem dL_way_18 : decode cL_way 18 = .ok (.ireturn, 1) := by decide +kernel
theorem dL_way_19 : decode cL_way 19 = .ok (.iconst 0, 1) := by decide +kernel
theorem dL_way_20 : decode cL_way 20 = .ok (.ireturn, 1) := by decide +kernel
theorem dL_count_0 : decode cL_count 0 = .ok (.aload_n 2, 1) := by decide +kernel
theorem dL_count_1 : decode cL_count 1 = .ok (.iconst 0, 1) := by decide +kernel
theorem dL_count_2 : decode cL_count 2 = .ok (.aload_n 0, 1) := by decide +kernel
theorem dL_count_3 : decode cL_count 3 = .ok (.iload_n 1, 1) := by decide +kernel
theorem dL_count_4 : decode cL_count 4 = .ok (.invokevirtual 46, 3) := by decide +kernel
theorem dL_count_7 : decode cL_count 7 = .ok (.i2l, 1) := by decide +kernel
theorem dL_count_8 : decode cL_count 8 = .ok (.lastore, 1) := by decide +kernel
theorem dL_count_9 : decode cL_count 9 = .ok (.goto 6, 3) := by decide +kernel
theorem dL_count_12 : decode cL_count 12 = .ok (.astore_n 3, 1) := by decide +kernel
theorem dL_count_13 : decode cL_count 13 = .ok (.iconst 1, 1) := by decide +kernel
theorem dL_count_14 : decode cL_count 14 = .ok (.ireturn, 1) := by decide +kernel
theorem dL_count_15 : decode cL_count 15 = .ok (.iconst 0, 1) := by decide +kernel
theorem dL_count_16 : decode cL_count 16 = .ok (.ireturn, 1) := by decide +kernel
theorem dL_page_0 : decode cL_page 0 = .ok (.aload_n 2, 1) := by decide +kernel
theorem dL_page_1 : decode cL_page 1 = .ok (.iconst 0, 1) := by decide +kernel
theorem dL_page_2 : decode cL_page 2 = .ok (.aload_n 0, 1) := by decide +kernel
theorem dL_page_3 : decode cL_page 3 = .ok (.iload_n 1, 1) := by decide +kernel
theorem dL_page_4 : decode cL_page 4 = .ok (.invokevirtual 49, 3) := by decide +kernel
theorem dL_page_7 : decode cL_page 7 = .ok (.i2l, 1) := by decide +kernel
theorem dL_page_8 : decode cL_page 8 = .ok (.lastore, 1) := by decide +kernel
theorem dL_page_9 : decode cL_page 9 = .ok (.goto 6, 3) := by decide +kernel
theorem dL_page_12 : decode cL_page 12 = .ok (.astore_n 3, 1) := by decide +kernel
theorem dL_page_13 : decode cL_page 13 = .ok (.iconst 1, 1) := by decide +kernel
theorem dL_page_14 : decode cL_page 14 = .ok (.ireturn, 1) := by decide +kernel
theorem dL_page_15 : decode cL_page 15 = .ok (.iconst 0, 1) := by decide +kernel
theorem dL_page_16 : decode cL_page 16 = .ok (.ireturn, 1) := by decide +kernel
theorem dL_goes_0 : decode cL_goes 0 = .ok (.aload_n 3, 1) := by decide +kernel
theorem dL_goes_1 : decode cL_goes 1 = .ok (.iconst 0, 1) := by decide +kernel
theorem dL_goes_2 : decode cL_goes 2 = .ok (.aload_n 0, 1) := by decide +kernel
theorem dL_goes_3 : decode cL_goes 3 = .ok (.iload_n 1, 1) := by decide +kernel
theorem dL_goes_4 : decode cL_goes 4 = .ok (.iload_n 2, 1) := by decide +kernel
theorem dL_goes_5 : decode cL_goes 5 = .ok (.invokevirtual 52, 3) := by decide +kernel
theorem dL_goes_8 : decode cL_goes 8 = .ok (.i2l, 1) := by decide +kernel
theorem dL_goes_9 : decode cL_goes 9 = .ok (.lastore, 1) := by decide +kernel
theorem dL_goes_10 : decode cL_goes 10 = .ok (.goto 7, 3) := by decide +kernel
theorem dL_goes_13 : decode cL_goes 13 = .ok (.astore 4, 2) := by decide +kernel
theorem dL_goes_15 : decode cL_goes 15 = .ok (.iconst 1, 1) := by decide +kernel
theorem dL_goes_16 : decode cL_goes 16 = .ok (.ireturn, 1) := by decide +kernel
theorem dL_goes_17 : decode cL_goes 17 = .ok (.iconst 0, 1) := by decide +kernel
theorem dL_goes_18 : decode cL_goes 18 = .ok (.ireturn, 1) := by decide +kernel
theorem dL_lost_0 : decode cL_lost 0 = .ok (.aload_n 2, 1) := by decide +kernel
theorem dL_lost_1 : decode cL_lost 1 = .ok (.iconst 0, 1) := by decide +kernel
theorem dL_lost_2 : decode cL_lost 2 = .ok (.aload_n 0, 1) := by decide +kernel
theorem dL_lost_3 : decode cL_lost 3 = .ok (.iload_n 1, 1) := by decide +kernel
theorem dL_lost_4 : decode cL_lost 4 = .ok (.invokevirtual 55, 3) := by decide +kernel
theorem dL_lost_7 : decode cL_lost 7 = .ok (.i2l, 1) := by decide +kernel
theorem dL_lost_8 : decode cL_lost 8 = .ok (.lastore, 1) := by decide +kernel
theorem dL_lost_9 : decode cL_lost 9 = .ok (.goto 6, 3) := by decide +kernel
theorem dL_lost_12 : decode cL_lost 12 = .ok (.astore_n 3, 1) := by decide +kernel
theorem dL_lost_13 : decode cL_lost 13 = .ok (.iconst 1, 1) := by decide +kernel
theorem dL_lost_14 : decode cL_lost 14 = .ok (.ireturn, 1) := by decide +kernel
theorem dL_lost_15 : decode cL_lost 15 = .ok (.iconst 0, 1) := by decide +kernel
theorem dL_lost_16 : decode cL_lost 16 = .ok (.ireturn, 1) := by decide +kernel
theorem dL_would_0 : decode cL_would 0 = .ok (.aload 5, 2) := by decide +kernel
theorem dL_would_2 : decode cL_would 2 = .ok (.iconst 0, 1) := by decide +kernel
theorem dL_would_3 : decode cL_would 3 = .ok (.aload_n 0, 1) := by decide +kernel
theorem dL_would_4 : decode cL_would 4 = .ok (.iload_n 1, 1) := by decide +kernel
theorem dL_would_5 : decode cL_would 5 = .ok (.iload_n 2, 1) := by decide +kernel
theorem dL_would_6 : decode cL_would 6 = .ok (.iload_n 3, 1) := by decide +kernel
theorem dL_would_7 : decode cL_would 7 = .ok (.iload 4, 2) := by decide +kernel
theorem dL_would_9 : decode cL_would 9 = .ok (.invokevirtual 58, 3) := by decide +kernel
theorem dL_would_12 : decode cL_would 12 = .ok (.i2l, 1) := by decide +kernel
theorem dL_would_13 : decode cL_would 13 = .ok (.lastore, 1) := by decide +kernel
theorem dL_would_14 : decode cL_would 14 = .ok (.goto 11, 3) := by decide +kernel
theorem dL_would_17 : decode cL_would 17 = .ok (.astore 6, 2) := by decide +kernel
theorem dL_would_19 : decode cL_would 19 = .ok (.iconst 1, 1) := by decide +kernel
theorem dL_would_20 : decode cL_would 20 = .ok (.ireturn, 1) := by decide +kernel
theorem dL_would_21 : decode cL_would 21 = .ok (.astore 6, 2) := by decide +kernel
theorem dL_would_23 : decode cL_would 23 = .ok (.iconst 2, 1) := by decide +kernel
theorem dL_would_24 : decode cL_would 24 = .ok (.ireturn, 1) := by decide +kernel
theorem dL_would_25 : decode cL_would 25 = .ok (.iconst 0, 1) := by decide +kernel
theorem dL_would_26 : decode cL_would 26 = .ok (.ireturn, 1) := by decide +kernel
theorem dL_undoes_0 : decode cL_undoes 0 = .ok (.aload_n 2, 1) := by decide +kernel
theorem dL_undoes_1 : decode cL_undoes 1 = .ok (.iconst 0, 1) := by decide +kernel
theorem dL_undoes_2 : decode cL_undoes 2 = .ok (.aload_n 0, 1) := by decide +kernel
theorem dL_undoes_3 : decode cL_undoes 3 = .ok (.iload_n 1, 1) := by decide +kernel
theorem dL_undoes_4 : decode cL_undoes 4 = .ok (.invokevirtual 61, 3) := by decide +kernel
theorem dL_undoes_7 : decode cL_undoes 7 = .ok (.i2l, 1) := by decide +kernel
theorem dL_undoes_8 : decode cL_undoes 8 = .ok (.lastore, 1) := by decide +kernel
theorem dL_undoes_9 : decode cL_undoes 9 = .ok (.goto 6, 3) := by decide +kernel
theorem dL_undoes_12 : decode cL_undoes 12 = .ok (.astore_n 3, 1) := by decide +kernel
theorem dL_undoes_13 : decode cL_undoes 13 = .ok (.iconst 1, 1) := by decide +kernel
theorem dL_undoes_14 : decode cL_undoes 14 = .ok (.ireturn, 1) := by decide +kernel
theorem dL_undoes_15 : decode cL_undoes 15 = .ok (.iconst 0, 1) := by decide +kernel
theorem dL_undoes_16 : decode cL_undoes 16 = .ok (.ireturn, 1) := by decide +kernel
