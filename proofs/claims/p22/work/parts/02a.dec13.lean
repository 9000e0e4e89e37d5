theorem dJ9_abs_0f7a4_0 : decode cJ9_abs_0f7a4 0 = .ok (.iload_n 0, 1) := by decide +kernel
theorem dJ9_abs_0f7a4_1 : decode cJ9_abs_0f7a4 1 = .ok (.ifCond .ge 8, 3) := by decide +kernel
theorem dJ9_abs_0f7a4_4 : decode cJ9_abs_0f7a4 4 = .ok (.iload_n 0, 1) := by decide +kernel
theorem dJ9_abs_0f7a4_5 : decode cJ9_abs_0f7a4 5 = .ok (.ineg, 1) := by decide +kernel
theorem dJ9_abs_0f7a4_6 : decode cJ9_abs_0f7a4 6 = .ok (.goto 4, 3) := by decide +kernel
theorem dJ9_abs_0f7a4_9 : decode cJ9_abs_0f7a4 9 = .ok (.iload_n 0, 1) := by decide +kernel
theorem dJ9_abs_0f7a4_10 : decode cJ9_abs_0f7a4 10 = .ok (.ireturn, 1) := by decide +kernel
theorem dJ9_max_7cf53_0 : decode cJ9_max_7cf53 0 = .ok (.iload_n 0, 1) := by decide +kernel
theorem dJ9_max_7cf53_1 : decode cJ9_max_7cf53 1 = .ok (.iload_n 1, 1) := by decide +kernel
theorem dJ9_max_7cf53_2 : decode cJ9_max_7cf53 2 = .ok (.if_icmp .lt 7, 3) := by decide +kernel
theorem dJ9_max_7cf53_5 : decode cJ9_max_7cf53 5 = .ok (.iload_n 0, 1) := by decide +kernel
theorem dJ9_max_7cf53_6 : decode cJ9_max_7cf53 6 = .ok (.goto 4, 3) := by decide +kernel
theorem dJ9_max_7cf53_9 : decode cJ9_max_7cf53 9 = .ok (.iload_n 1, 1) := by decide +kernel
theorem dJ9_max_7cf53_10 : decode cJ9_max_7cf53 10 = .ok (.ireturn, 1) := by decide +kernel
theorem dL_below_0 : decode cL_below 0 = .ok (.iload_n 0, 1) := by decide +kernel
theorem dL_below_1 : decode cL_below 1 = .ok (.ldc 7, 2) := by decide +kernel
theorem dL_below_3 : decode cL_below 3 = .ok (.iand, 1) := by decide +kernel
theorem dL_below_4 : decode cL_below 4 = .ok (.iload_n 1, 1) := by decide +kernel
theorem dL_below_5 : decode cL_below 5 = .ok (.irem, 1) := by decide +kernel
theorem dL_below_6 : decode cL_below 6 = .ok (.ireturn, 1) := by decide +kernel
theorem dL_cell_0 : decode cL_cell 0 = .ok (.iload_n 1, 1) := by decide +kernel
theorem dL_cell_1 : decode cL_cell 1 = .ok (.aload_n 0, 1) := by decide +kernel
theorem dL_cell_2 : decode cL_cell 2 = .ok (.arraylength, 1) := by decide +kernel
theorem dL_cell_3 : decode cL_cell 3 = .ok (.if_icmp .ge 9, 3) := by decide +kernel
theorem dL_cell_6 : decode cL_cell 6 = .ok (.aload_n 0, 1) := by decide +kernel
theorem dL_cell_7 : decode cL_cell 7 = .ok (.iload_n 1, 1) := by decide +kernel
theorem dL_cell_8 : decode cL_cell 8 = .ok (.iaload, 1) := by decide +kernel
theorem dL_cell_9 : decode cL_cell 9 = .ok (.goto 9, 3) := by decide +kernel
theorem dL_cell_12 : decode cL_cell 12 = .ok (.ldc 8, 2) := by decide +kernel
theorem dL_cell_14 : decode cL_cell 14 = .ok (.iload_n 1, 1) := by decide +kernel
theorem dL_cell_15 : decode cL_cell 15 = .ok (.iconst 3, 1) := by decide +kernel
theorem dL_cell_16 : decode cL_cell 16 = .ok (.iadd, 1) := by decide +kernel
theorem dL_cell_17 : decode cL_cell 17 = .ok (.imul, 1) := by decide +kernel
theorem dL_cell_18 : decode cL_cell 18 = .ok (.ireturn, 1) := by decide +kernel
theorem dL_with_0 : decode cL_with 0 = .ok (.aload_n 0, 1) := by decide +kernel
theorem dL_with_1 : decode cL_with 1 = .ok (.arraylength, 1) := by decide +kernel
theorem dL_with_2 : decode cL_with 2 = .ok (.iconst 1, 1) := by decide +kernel
theorem dL_with_3 : decode cL_with 3 = .ok (.iadd, 1) := by decide +kernel
theorem dL_with_4 : decode cL_with 4 = .ok (.newarray .int, 2) := by decide +kernel
theorem dL_with_6 : decode cL_with 6 = .ok (.astore_n 3, 1) := by decide +kernel
theorem dL_with_7 : decode cL_with 7 = .ok (.iconst 0, 1) := by decide +kernel
theorem dL_with_8 : decode cL_with 8 = .ok (.istore 4, 2) := by decide +kernel
theorem dL_with_10 : decode cL_with 10 = .ok (.iload 4, 2) := by decide +kernel
theorem dL_with_12 : decode cL_with 12 = .ok (.aload_n 3, 1) := by decide +kernel
theorem dL_with_13 : decode cL_with 13 = .ok (.arraylength, 1) := by decide +kernel
theorem dL_with_14 : decode cL_with 14 = .ok (.if_icmp .ge 42, 3) := by decide +kernel
theorem dL_with_17 : decode cL_with 17 = .ok (.aload_n 3, 1) := by decide +kernel
theorem dL_with_18 : decode cL_with 18 = .ok (.iload 4, 2) := by decide +kernel
theorem dL_with_20 : decode cL_with 20 = .ok (.iload 4, 2) := by decide +kernel
theorem dL_with_22 : decode cL_with 22 = .ok (.iload_n 1, 1) := by decide +kernel
theorem dL_with_23 : decode cL_with 23 = .ok (.if_icmp .ge 10, 3) := by decide +kernel
theorem dL_with_26 : decode cL_with 26 = .ok (.aload_n 0, 1) := by decide +kernel
theorem dL_with_27 : decode cL_with 27 = .ok (.iload 4, 2) := by decide +kernel
theorem dL_with_29 : decode cL_with 29 = .ok (.iaload, 1) := by decide +kernel
theorem dL_with_30 : decode cL_with 30 = .ok (.goto 19, 3) := by decide +kernel
theorem dL_with_33 : decode cL_with 33 = .ok (.iload 4, 2) := by decide +kernel
theorem dL_with_35 : decode cL_with 35 = .ok (.iload_n 1, 1) := by decide +kernel
theorem dL_with_36 : decode cL_with 36 = .ok (.if_icmp .ne 7, 3) := by decide +kernel
theorem dL_with_39 : decode cL_with 39 = .ok (.iload_n 2, 1) := by decide +kernel
theorem dL_with_40 : decode cL_with 40 = .ok (.goto 9, 3) := by decide +kernel
theorem dL_with_43 : decode cL_with 43 = .ok (.aload_n 0, 1) := by decide +kernel
theorem dL_with_44 : decode cL_with 44 = .ok (.iload 4, 2) := by decide +kernel
theorem dL_with_46 : decode cL_with 46 = .ok (.iconst 1, 1) := by decide +kernel
theorem dL_with_47 : decode cL_with 47 = .ok (.isub, 1) := by decide +kernel
theorem dL_with_48 : decode cL_with 48 = .ok (.iaload, 1) := by decide +kernel
theorem dL_with_49 : decode cL_with 49 = .ok (.iastore, 1) := by decide +kernel
theorem dL_with_50 : decode cL_with 50 = .ok (.iinc 4 1, 3) := by decide +kernel
theorem dL_with_53 : decode cL_with 53 = .ok (.goto (-43), 3) := by decide +kernel
theorem dL_with_56 : decode cL_with 56 = .ok (.aload_n 3, 1) := by decide +kernel
theorem dL_with_57 : decode cL_with 57 = .ok (.areturn, 1) := by decide +kernel
theorem dL_without_0 : decode cL_without 0 = .ok (.aload_n 0, 1) := by decide +kernel
theorem dL_without_1 : decode cL_without 1 = .ok (.arraylength, 1) := by decide +kernel
theorem dL_without_2 : decode cL_without 2 = .ok (.iconst 1, 1) := by decide +kernel
theorem dL_without_3 : decode cL_without 3 = .ok (.isub, 1) := by decide +kernel
theorem dL_without_4 : decode cL_without 4 = .ok (.newarray .int, 2) := by decide +kernel
theorem dL_without_6 : decode cL_without 6 = .ok (.astore_n 2, 1) := by decide +kernel
theorem dL_without_7 : decode cL_without 7 = .ok (.iconst 0, 1) := by decide +kernel
theorem dL_without_8 : decode cL_without 8 = .ok (.istore_n 3, 1) := by decide +kernel
theorem dL_without_9 : decode cL_without 9 = .ok (.iload_n 3, 1) := by decide +kernel
theorem dL_without_10 : decode cL_without 10 = .ok (.aload_n 2, 1) := by decide +kernel
theorem dL_without_11 : decode cL_without 11 = .ok (.arraylength, 1) := by decide +kernel
theorem dL_without_12 : decode cL_without 12 = .ok (.if_icmp .ge 26, 3) := by decide +kernel
theorem dL_without_15 : decode cL_without 15 = .ok (.aload_n 2, 1) := by decide +kernel
theorem dL_without_16 : decode cL_without 16 = .ok (.iload_n 3, 1) := by decide +kernel
theorem dL_without_17 : decode cL_without 17 = .ok (.aload_n 0, 1) := by decide +kernel
theorem dL_without_18 : decode cL_without 18 = .ok (.iload_n 3, 1) := by decide +kernel
theorem dL_without_19 : decode cL_without 19 = .ok (.iload_n 1, 1) := by decide +kernel
theorem dL_without_20 : decode cL_without 20 = .ok (.if_icmp .ge 7, 3) := by decide +kernel
theorem dL_without_23 : decode cL_without 23 = .ok (.iload_n 3, 1) := by decide +kernel
theorem dL_without_24 : decode cL_without 24 = .ok (.goto 6, 3) := by decide +kernel
theorem dL_without_27 : decode cL_without 27 = .ok (.iload_n 3, 1) := by decide +kernel
theorem dL_without_28 : decode cL_without 28 = .ok (.iconst 1, 1) := by decide +kernel
theorem dL_without_29 : decode cL_without 29 = .ok (.iadd, 1) := by decide +kernel
theorem dL_without_30 : decode cL_without 30 = .ok (.iaload, 1) := by decide +kernel
theorem dL_without_31 : decode cL_without 31 = .ok (.iastore, 1) := by decide +kernel
theorem dL_without_32 : decode cL_without 32 = .ok (.iinc 3 1, 3) := by decide +kernel
theorem dL_without_35 : decode cL_without 35 = .ok (.goto (-26), 3) := by decide +kernel
theorem dL_without_38 : decode cL_without 38 = .ok (.aload_n 2, 1) := by decide +kernel
theorem dL_without_39 : decode cL_without 39 = .ok (.areturn, 1) := by decide +kernel
theorem dL_more_0 : decode cL_more 0 = .ok (.aload_n 0, 1) := by decide +kernel
theorem dL_more_1 : decode cL_more 1 = .ok (.arraylength, 1) := by decide +kernel
theorem dL_more_2 : decode cL_more 2 = .ok (.iconst 1, 1) := by decide +kernel
theorem dL_more_3 : decode cL_more 3 = .ok (.iadd, 1) := by decide +kernel
theorem dL_more_4 : decode cL_more 4 = .ok (.anewarray 9, 3) := by decide +kernel
theorem dL_more_7 : decode cL_more 7 = .ok (.astore_n 2, 1) := by decide +kernel
theorem dL_more_8 : decode cL_more 8 = .ok (.iconst 0, 1) := by decide +kernel
theorem dL_more_9 : decode cL_more 9 = .ok (.istore_n 3, 1) := by decide +kernel
theorem dL_more_10 : decode cL_more 10 = .ok (.iload_n 3, 1) := by decide +kernel
theorem dL_more_11 : decode cL_more 11 = .ok (.aload_n 0, 1) := by decide +kernel
theorem dL_more_12 : decode cL_more 12 = .ok (.arraylength, 1) := by decide +kernel
theorem dL_more_13 : decode cL_more 13 = .ok (.if_icmp .ge 15, 3) := by decide +kernel
theorem dL_more_16 : decode cL_more 16 = .ok (.aload_n 2, 1) := by decide +kernel
theorem dL_more_17 : decode cL_more 17 = .ok (.iload_n 3, 1) := by decide +kernel
theorem dL_more_18 : decode cL_more 18 = .ok (.aload_n 0, 1) := by decide +kernel
theorem dL_more_19 : decode cL_more 19 = .ok (.iload_n 3, 1) := by decide +kernel
theorem dL_more_20 : decode cL_more 20 = .ok (.aaload, 1) := by decide +kernel
theorem dL_more_21 : decode cL_more 21 = .ok (.aastore, 1) := by decide +kernel
theorem dL_more_22 : decode cL_more 22 = .ok (.iinc 3 1, 3) := by decide +kernel
theorem dL_more_25 : decode cL_more 25 = .ok (.goto (-15), 3) := by decide +kernel
theorem dL_more_28 : decode cL_more 28 = .ok (.aload_n 2, 1) := by decide +kernel
theorem dL_more_29 : decode cL_more 29 = .ok (.aload_n 0, 1) := by decide +kernel
theorem dL_more_30 : decode cL_more 30 = .ok (.arraylength, 1) := by decide +kernel
theorem dL_more_31 : decode cL_more 31 = .ok (.aload_n 1, 1) := by decide +kernel
theorem dL_more_32 : decode cL_more 32 = .ok (.aastore, 1) := by decide +kernel
theorem dL_more_33 : decode cL_more 33 = .ok (.aload_n 2, 1) := by decide +kernel
theorem dL_more_34 : decode cL_more 34 = .ok (.areturn, 1) := by decide +kernel
