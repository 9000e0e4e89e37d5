theorem dX0_init_0 : decode cX0_init 0 = .ok (.aload_n 0, 1) := by decide +kernel
theorem dX0_init_1 : decode cX0_init 1 = .ok (.invokespecial 3, 3) := by decide +kernel
theorem dX0_init_4 : decode cX0_init 4 = .ok (.aload_n 0, 1) := by decide +kernel
theorem dX0_init_5 : decode cX0_init 5 = .ok (.new 9, 3) := by decide +kernel
theorem dX0_init_8 : decode cX0_init 8 = .ok (.dup, 1) := by decide +kernel
theorem dX0_init_9 : decode cX0_init 9 = .ok (.bipush 64, 2) := by decide +kernel
theorem dX0_init_11 : decode cX0_init 11 = .ok (.invokespecial 11, 3) := by decide +kernel
theorem dX0_init_14 : decode cX0_init 14 = .ok (.putfield 14, 3) := by decide +kernel
theorem dX0_init_17 : decode cX0_init 17 = .ok (.aload_n 0, 1) := by decide +kernel
theorem dX0_init_18 : decode cX0_init 18 = .ok (.new 9, 3) := by decide +kernel
theorem dX0_init_21 : decode cX0_init 21 = .ok (.dup, 1) := by decide +kernel
theorem dX0_init_22 : decode cX0_init 22 = .ok (.bipush 64, 2) := by decide +kernel
theorem dX0_init_24 : decode cX0_init 24 = .ok (.invokespecial 11, 3) := by decide +kernel
theorem dX0_init_27 : decode cX0_init 27 = .ok (.putfield 20, 3) := by decide +kernel
theorem dX0_init_30 : decode cX0_init 30 = .ok (.aload_n 0, 1) := by decide +kernel
theorem dX0_init_31 : decode cX0_init 31 = .ok (.new 9, 3) := by decide +kernel
theorem dX0_init_34 : decode cX0_init 34 = .ok (.dup, 1) := by decide +kernel
theorem dX0_init_35 : decode cX0_init 35 = .ok (.bipush 64, 2) := by decide +kernel
theorem dX0_init_37 : decode cX0_init 37 = .ok (.invokespecial 11, 3) := by decide +kernel
theorem dX0_init_40 : decode cX0_init 40 = .ok (.putfield 23, 3) := by decide +kernel
theorem dX0_init_43 : decode cX0_init 43 = .ok (.return_, 1) := by decide +kernel
theorem dX0_size_0 : decode cX0_size 0 = .ok (.aload_n 0, 1) := by decide +kernel
theorem dX0_size_1 : decode cX0_size 1 = .ok (.getfield 14, 3) := by decide +kernel
theorem dX0_size_4 : decode cX0_size 4 = .ok (.getfield 26, 3) := by decide +kernel
theorem dX0_size_7 : decode cX0_size 7 = .ok (.ireturn, 1) := by decide +kernel
theorem dX0_insert_0 : decode cX0_insert 0 = .ok (.aload_n 0, 1) := by decide +kernel
theorem dX0_insert_1 : decode cX0_insert 1 = .ok (.getfield 14, 3) := by decide +kernel
theorem dX0_insert_4 : decode cX0_insert 4 = .ok (.iload_n 1, 1) := by decide +kernel
theorem dX0_insert_5 : decode cX0_insert 5 = .ok (.iload_n 2, 1) := by decide +kernel
theorem dX0_insert_6 : decode cX0_insert 6 = .ok (.invokevirtual 30, 3) := by decide +kernel
theorem dX0_insert_9 : decode cX0_insert 9 = .ok (.aload_n 0, 1) := by decide +kernel
theorem dX0_insert_10 : decode cX0_insert 10 = .ok (.getfield 20, 3) := by decide +kernel
theorem dX0_insert_13 : decode cX0_insert 13 = .ok (.iload_n 1, 1) := by decide +kernel
theorem dX0_insert_14 : decode cX0_insert 14 = .ok (.iload_n 3, 1) := by decide +kernel
theorem dX0_insert_15 : decode cX0_insert 15 = .ok (.invokevirtual 30, 3) := by decide +kernel
theorem dX0_insert_18 : decode cX0_insert 18 = .ok (.aload_n 0, 1) := by decide +kernel
theorem dX0_insert_19 : decode cX0_insert 19 = .ok (.getfield 23, 3) := by decide +kernel
theorem dX0_insert_22 : decode cX0_insert 22 = .ok (.iload_n 1, 1) := by decide +kernel
theorem dX0_insert_23 : decode cX0_insert 23 = .ok (.iload 4, 2) := by decide +kernel
theorem dX0_insert_25 : decode cX0_insert 25 = .ok (.invokevirtual 30, 3) := by decide +kernel
theorem dX0_insert_28 : decode cX0_insert 28 = .ok (.return_, 1) := by decide +kernel
theorem dX0_remove_0 : decode cX0_remove 0 = .ok (.aload_n 0, 1) := by decide +kernel
theorem dX0_remove_1 : decode cX0_remove 1 = .ok (.getfield 14, 3) := by decide +kernel
theorem dX0_remove_4 : decode cX0_remove 4 = .ok (.iload_n 1, 1) := by decide +kernel
theorem dX0_remove_5 : decode cX0_remove 5 = .ok (.invokevirtual 34, 3) := by decide +kernel
theorem dX0_remove_8 : decode cX0_remove 8 = .ok (.aload_n 0, 1) := by decide +kernel
theorem dX0_remove_9 : decode cX0_remove 9 = .ok (.getfield 20, 3) := by decide +kernel
theorem dX0_remove_12 : decode cX0_remove 12 = .ok (.iload_n 1, 1) := by decide +kernel
theorem dX0_remove_13 : decode cX0_remove 13 = .ok (.invokevirtual 34, 3) := by decide +kernel
theorem dX0_remove_16 : decode cX0_remove 16 = .ok (.aload_n 0, 1) := by decide +kernel
theorem dX0_remove_17 : decode cX0_remove 17 = .ok (.getfield 23, 3) := by decide +kernel
theorem dX0_remove_20 : decode cX0_remove 20 = .ok (.iload_n 1, 1) := by decide +kernel
theorem dX0_remove_21 : decode cX0_remove 21 = .ok (.invokevirtual 34, 3) := by decide +kernel
theorem dX0_remove_24 : decode cX0_remove 24 = .ok (.return_, 1) := by decide +kernel
theorem dX0_placeOf_0 : decode cX0_placeOf 0 = .ok (.iconst 0, 1) := by decide +kernel
theorem dX0_placeOf_1 : decode cX0_placeOf 1 = .ok (.istore_n 2, 1) := by decide +kernel
theorem dX0_placeOf_2 : decode cX0_placeOf 2 = .ok (.iload_n 2, 1) := by decide +kernel
theorem dX0_placeOf_3 : decode cX0_placeOf 3 = .ok (.aload_n 0, 1) := by decide +kernel
theorem dX0_placeOf_4 : decode cX0_placeOf 4 = .ok (.getfield 23, 3) := by decide +kernel
theorem dX0_placeOf_7 : decode cX0_placeOf 7 = .ok (.getfield 26, 3) := by decide +kernel
theorem dX0_placeOf_10 : decode cX0_placeOf 10 = .ok (.if_icmp .ge 23, 3) := by decide +kernel
theorem dX0_placeOf_13 : decode cX0_placeOf 13 = .ok (.aload_n 0, 1) := by decide +kernel
theorem dX0_placeOf_14 : decode cX0_placeOf 14 = .ok (.getfield 23, 3) := by decide +kernel
theorem dX0_placeOf_17 : decode cX0_placeOf 17 = .ok (.iload_n 2, 1) := by decide +kernel
theorem dX0_placeOf_18 : decode cX0_placeOf 18 = .ok (.invokevirtual 37, 3) := by decide +kernel
theorem dX0_placeOf_21 : decode cX0_placeOf 21 = .ok (.iload_n 1, 1) := by decide +kernel
theorem dX0_placeOf_22 : decode cX0_placeOf 22 = .ok (.if_icmp .ne 5, 3) := by decide +kernel
theorem dX0_placeOf_25 : decode cX0_placeOf 25 = .ok (.iload_n 2, 1) := by decide +kernel
theorem dX0_placeOf_26 : decode cX0_placeOf 26 = .ok (.ireturn, 1) := by decide +kernel
theorem dX0_placeOf_27 : decode cX0_placeOf 27 = .ok (.iinc 2 1, 3) := by decide +kernel
theorem dX0_placeOf_30 : decode cX0_placeOf 30 = .ok (.goto (-28), 3) := by decide +kernel
theorem dX0_placeOf_33 : decode cX0_placeOf 33 = .ok (.iconst (-1), 1) := by decide +kernel
theorem dX0_placeOf_34 : decode cX0_placeOf 34 = .ok (.ireturn, 1) := by decide +kernel
theorem dX0_lettersOf_0 : decode cX0_lettersOf 0 = .ok (.iconst 0, 1) := by decide +kernel
theorem dX0_lettersOf_1 : decode cX0_lettersOf 1 = .ok (.istore_n 2, 1) := by decide +kernel
theorem dX0_lettersOf_2 : decode cX0_lettersOf 2 = .ok (.iconst 0, 1) := by decide +kernel
theorem dX0_lettersOf_3 : decode cX0_lettersOf 3 = .ok (.istore_n 3, 1) := by decide +kernel
theorem dX0_lettersOf_4 : decode cX0_lettersOf 4 = .ok (.iload_n 3, 1) := by decide +kernel
theorem dX0_lettersOf_5 : decode cX0_lettersOf 5 = .ok (.aload_n 0, 1) := by decide +kernel
theorem dX0_lettersOf_6 : decode cX0_lettersOf 6 = .ok (.getfield 20, 3) := by decide +kernel
theorem dX0_lettersOf_9 : decode cX0_lettersOf 9 = .ok (.getfield 26, 3) := by decide +kernel
theorem dX0_lettersOf_12 : decode cX0_lettersOf 12 = .ok (.if_icmp .ge 24, 3) := by decide +kernel
theorem dX0_lettersOf_15 : decode cX0_lettersOf 15 = .ok (.aload_n 0, 1) := by decide +kernel
theorem dX0_lettersOf_16 : decode cX0_lettersOf 16 = .ok (.getfield 20, 3) := by decide +kernel
theorem dX0_lettersOf_19 : decode cX0_lettersOf 19 = .ok (.iload_n 3, 1) := by decide +kernel
theorem dX0_lettersOf_20 : decode cX0_lettersOf 20 = .ok (.invokevirtual 37, 3) := by decide +kernel
theorem dX0_lettersOf_23 : decode cX0_lettersOf 23 = .ok (.iload_n 1, 1) := by decide +kernel
theorem dX0_lettersOf_24 : decode cX0_lettersOf 24 = .ok (.if_icmp .ne 6, 3) := by decide +kernel
theorem dX0_lettersOf_27 : decode cX0_lettersOf 27 = .ok (.iinc 2 1, 3) := by decide +kernel
theorem dX0_lettersOf_30 : decode cX0_lettersOf 30 = .ok (.iinc 3 1, 3) := by decide +kernel
theorem dX0_lettersOf_33 : decode cX0_lettersOf 33 = .ok (.goto (-29), 3) := by decide +kernel
theorem dX0_lettersOf_36 : decode cX0_lettersOf 36 = .ok (.iload_n 2, 1) := by decide +kernel
theorem dX0_lettersOf_37 : decode cX0_lettersOf 37 = .ok (.ireturn, 1) := by decide +kernel
theorem dX1_init_0 : decode cX1_init 0 = .ok (.aload_n 0, 1) := by decide +kernel
theorem dX1_init_1 : decode cX1_init 1 = .ok (.invokespecial 3, 3) := by decide +kernel
theorem dX1_init_4 : decode cX1_init 4 = .ok (.aload_n 0, 1) := by decide +kernel
theorem dX1_init_5 : decode cX1_init 5 = .ok (.new 9, 3) := by decide +kernel
theorem dX1_init_8 : decode cX1_init 8 = .ok (.dup, 1) := by decide +kernel
theorem dX1_init_9 : decode cX1_init 9 = .ok (.sipush 512, 3) := by decide +kernel
theorem dX1_init_12 : decode cX1_init 12 = .ok (.invokespecial 11, 3) := by decide +kernel
theorem dX1_init_15 : decode cX1_init 15 = .ok (.putfield 14, 3) := by decide +kernel
theorem dX1_init_18 : decode cX1_init 18 = .ok (.aload_n 0, 1) := by decide +kernel
theorem dX1_init_19 : decode cX1_init 19 = .ok (.new 9, 3) := by decide +kernel
theorem dX1_init_22 : decode cX1_init 22 = .ok (.dup, 1) := by decide +kernel
theorem dX1_init_23 : decode cX1_init 23 = .ok (.sipush 512, 3) := by decide +kernel
theorem dX1_init_26 : decode cX1_init 26 = .ok (.invokespecial 11, 3) := by decide +kernel
theorem dX1_init_29 : decode cX1_init 29 = .ok (.putfield 20, 3) := by decide +kernel
theorem dX1_init_32 : decode cX1_init 32 = .ok (.aload_n 0, 1) := by decide +kernel
theorem dX1_init_33 : decode cX1_init 33 = .ok (.new 9, 3) := by decide +kernel
theorem dX1_init_36 : decode cX1_init 36 = .ok (.dup, 1) := by decide +kernel
theorem dX1_init_37 : decode cX1_init 37 = .ok (.sipush 512, 3) := by decide +kernel
theorem dX1_init_40 : decode cX1_init 40 = .ok (.invokespecial 11, 3) := by decide +kernel
theorem dX1_init_43 : decode cX1_init 43 = .ok (.putfield 23, 3) := by decide +kernel
theorem dX1_init_46 : decode cX1_init 46 = .ok (.return_, 1) := by decide +kernel
theorem dX1_size_0 : decode cX1_size 0 = .ok (.aload_n 0, 1) := by decide +kernel
theorem dX1_size_1 : decode cX1_size 1 = .ok (.getfield 14, 3) := by decide +kernel
theorem dX1_size_4 : decode cX1_size 4 = .ok (.getfield 26, 3) := by decide +kernel
theorem dX1_size_7 : decode cX1_size 7 = .ok (.ireturn, 1) := by decide +kernel
theorem dX1_addSet_0 : decode cX1_addSet 0 = .ok (.aload_n 0, 1) := by decide +kernel
theorem dX1_addSet_1 : decode cX1_addSet 1 = .ok (.getfield 14, 3) := by decide +kernel
theorem dX1_addSet_4 : decode cX1_addSet 4 = .ok (.iconst (-1), 1) := by decide +kernel
theorem dX1_addSet_5 : decode cX1_addSet 5 = .ok (.invokevirtual 30, 3) := by decide +kernel
theorem dX1_addSet_8 : decode cX1_addSet 8 = .ok (.aload_n 0, 1) := by decide +kernel
theorem dX1_addSet_9 : decode cX1_addSet 9 = .ok (.getfield 20, 3) := by decide +kernel
theorem dX1_addSet_12 : decode cX1_addSet 12 = .ok (.iconst (-1), 1) := by decide +kernel
theorem dX1_addSet_13 : decode cX1_addSet 13 = .ok (.invokevirtual 30, 3) := by decide +kernel
theorem dX1_addSet_16 : decode cX1_addSet 16 = .ok (.aload_n 0, 1) := by decide +kernel
theorem dX1_addSet_17 : decode cX1_addSet 17 = .ok (.getfield 23, 3) := by decide +kernel
theorem dX1_addSet_20 : decode cX1_addSet 20 = .ok (.iload_n 1, 1) := by decide +kernel
theorem dX1_addSet_21 : decode cX1_addSet 21 = .ok (.invokevirtual 30, 3) := by decide +kernel
theorem dX1_addSet_24 : decode cX1_addSet 24 = .ok (.return_, 1) := by decide +kernel
theorem dX1_addStrike_0 : decode cX1_addStrike 0 = .ok (.aload_n 0, 1) := by decide +kernel
theorem dX1_addStrike_1 : decode cX1_addStrike 1 = .ok (.getfield 14, 3) := by decide +kernel
theorem dX1_addStrike_4 : decode cX1_addStrike 4 = .ok (.iload_n 1, 1) := by decide +kernel
theorem dX1_addStrike_5 : decode cX1_addStrike 5 = .ok (.invokevirtual 30, 3) := by decide +kernel
theorem dX1_addStrike_8 : decode cX1_addStrike 8 = .ok (.aload_n 0, 1) := by decide +kernel
theorem dX1_addStrike_9 : decode cX1_addStrike 9 = .ok (.getfield 20, 3) := by decide +kernel
theorem dX1_addStrike_12 : decode cX1_addStrike 12 = .ok (.iload_n 2, 1) := by decide +kernel
theorem dX1_addStrike_13 : decode cX1_addStrike 13 = .ok (.invokevirtual 30, 3) := by decide +kernel
theorem dX1_addStrike_16 : decode cX1_addStrike 16 = .ok (.aload_n 0, 1) := by decide +kernel
theorem dX1_addStrike_17 : decode cX1_addStrike 17 = .ok (.getfield 23, 3) := by decide +kernel
theorem dX1_addStrike_20 : decode cX1_addStrike 20 = .ok (.iconst (-1), 1) := by decide +kernel
theorem dX1_addStrike_21 : decode cX1_addStrike 21 = .ok (.invokevirtual 30, 3) := by decide +kernel
theorem dX1_addStrike_24 : decode cX1_addStrike 24 = .ok (.return_, 1) := by decide +kernel
theorem dX1_lastStruck_0 : decode cX1_lastStruck 0 = .ok (.aload_n 0, 1) := by decide +kernel
theorem dX1_lastStruck_1 : decode cX1_lastStruck 1 = .ok (.getfield 14, 3) := by decide +kernel
theorem dX1_lastStruck_4 : decode cX1_lastStruck 4 = .ok (.aload_n 0, 1) := by decide +kernel
theorem dX1_lastStruck_5 : decode cX1_lastStruck 5 = .ok (.getfield 14, 3) := by decide +kernel
theorem dX1_lastStruck_8 : decode cX1_lastStruck 8 = .ok (.getfield 26, 3) := by decide +kernel
theorem dX1_lastStruck_11 : decode cX1_lastStruck 11 = .ok (.iconst 1, 1) := by decide +kernel
theorem dX1_lastStruck_12 : decode cX1_lastStruck 12 = .ok (.isub, 1) := by decide +kernel
theorem dX1_lastStruck_13 : decode cX1_lastStruck 13 = .ok (.invokevirtual 33, 3) := by decide +kernel
theorem dX1_lastStruck_16 : decode cX1_lastStruck 16 = .ok (.ifCond .lt 7, 3) := by decide +kernel
theorem dX1_lastStruck_19 : decode cX1_lastStruck 19 = .ok (.iconst 1, 1) := by decide +kernel
theorem dX1_lastStruck_20 : decode cX1_lastStruck 20 = .ok (.goto 4, 3) := by decide +kernel
theorem dX1_lastStruck_23 : decode cX1_lastStruck 23 = .ok (.iconst 0, 1) := by decide +kernel
theorem dX1_lastStruck_24 : decode cX1_lastStruck 24 = .ok (.ireturn, 1) := by decide +kernel
theorem dX1_lastPlace_0 : decode cX1_lastPlace 0 = .ok (.aload_n 0, 1) := by decide +kernel
theorem dX1_lastPlace_1 : decode cX1_lastPlace 1 = .ok (.getfield 14, 3) := by decide +kernel
theorem dX1_lastPlace_4 : decode cX1_lastPlace 4 = .ok (.aload_n 0, 1) := by decide +kernel
theorem dX1_lastPlace_5 : decode cX1_lastPlace 5 = .ok (.getfield 14, 3) := by decide +kernel
theorem dX1_lastPlace_8 : decode cX1_lastPlace 8 = .ok (.getfield 26, 3) := by decide +kernel
theorem dX1_lastPlace_11 : decode cX1_lastPlace 11 = .ok (.iconst 1, 1) := by decide +kernel
theorem dX1_lastPlace_12 : decode cX1_lastPlace 12 = .ok (.isub, 1) := by decide +kernel
theorem dX1_lastPlace_13 : decode cX1_lastPlace 13 = .ok (.invokevirtual 33, 3) := by decide +kernel
theorem dX1_lastPlace_16 : decode cX1_lastPlace 16 = .ok (.ireturn, 1) := by decide +kernel
theorem dX1_lastLetter_0 : decode cX1_lastLetter 0 = .ok (.aload_n 0, 1) := by decide +kernel
theorem dX1_lastLetter_1 : decode cX1_lastLetter 1 = .ok (.getfield 20, 3) := by decide +kernel
theorem dX1_lastLetter_4 : decode cX1_lastLetter 4 = .ok (.aload_n 0, 1) := by decide +kernel
theorem dX1_lastLetter_5 : decode cX1_lastLetter 5 = .ok (.getfield 20, 3) := by decide +kernel
theorem dX1_lastLetter_8 : decode cX1_lastLetter 8 = .ok (.getfield 26, 3) := by decide +kernel
theorem dX1_lastLetter_11 : decode cX1_lastLetter 11 = .ok (.iconst 1, 1) := by decide +kernel
theorem dX1_lastLetter_12 : decode cX1_lastLetter 12 = .ok (.isub, 1) := by decide +kernel
theorem dX1_lastLetter_13 : decode cX1_lastLetter 13 = .ok (.invokevirtual 33, 3) := by decide +kernel
theorem dX1_lastLetter_16 : decode cX1_lastLetter 16 = .ok (.ireturn, 1) := by decide +kernel
theorem dX1_lastMark_0 : decode cX1_lastMark 0 = .ok (.aload_n 0, 1) := by decide +kernel
theorem dX1_lastMark_1 : decode cX1_lastMark 1 = .ok (.getfield 23, 3) := by decide +kernel
theorem dX1_lastMark_4 : decode cX1_lastMark 4 = .ok (.aload_n 0, 1) := by decide +kernel
theorem dX1_lastMark_5 : decode cX1_lastMark 5 = .ok (.getfield 23, 3) := by decide +kernel
theorem dX1_lastMark_8 : decode cX1_lastMark 8 = .ok (.getfield 26, 3) := by decide +kernel
theorem dX1_lastMark_11 : decode cX1_lastMark 11 = .ok (.iconst 1, 1) := by decide +kernel
theorem dX1_lastMark_12 : decode cX1_lastMark 12 = .ok (.isub, 1) := by decide +kernel
theorem dX1_lastMark_13 : decode cX1_lastMark 13 = .ok (.invokevirtual 33, 3) := by decide +kernel
theorem dX1_lastMark_16 : decode cX1_lastMark 16 = .ok (.ireturn, 1) := by decide +kernel
theorem dX1_forgetLast_0 : decode cX1_forgetLast 0 = .ok (.aload_n 0, 1) := by decide +kernel
theorem dX1_forgetLast_1 : decode cX1_forgetLast 1 = .ok (.getfield 14, 3) := by decide +kernel
theorem dX1_forgetLast_4 : decode cX1_forgetLast 4 = .ok (.aload_n 0, 1) := by decide +kernel
theorem dX1_forgetLast_5 : decode cX1_forgetLast 5 = .ok (.getfield 14, 3) := by decide +kernel
theorem dX1_forgetLast_8 : decode cX1_forgetLast 8 = .ok (.getfield 26, 3) := by decide +kernel
theorem dX1_forgetLast_11 : decode cX1_forgetLast 11 = .ok (.iconst 1, 1) := by decide +kernel
theorem dX1_forgetLast_12 : decode cX1_forgetLast 12 = .ok (.isub, 1) := by decide +kernel
theorem dX1_forgetLast_13 : decode cX1_forgetLast 13 = .ok (.invokevirtual 37, 3) := by decide +kernel
theorem dX1_forgetLast_16 : decode cX1_forgetLast 16 = .ok (.aload_n 0, 1) := by decide +kernel
theorem dX1_forgetLast_17 : decode cX1_forgetLast 17 = .ok (.getfield 20, 3) := by decide +kernel
theorem dX1_forgetLast_20 : decode cX1_forgetLast 20 = .ok (.aload_n 0, 1) := by decide +kernel
theorem dX1_forgetLast_21 : decode cX1_forgetLast 21 = .ok (.getfield 20, 3) := by decide +kernel
theorem dX1_forgetLast_24 : decode cX1_forgetLast 24 = .ok (.getfield 26, 3) := by decide +kernel
theorem dX1_forgetLast_27 : decode cX1_forgetLast 27 = .ok (.iconst 1, 1) := by decide +kernel
theorem dX1_forgetLast_28 : decode cX1_forgetLast 28 = .ok (.isub, 1) := by decide +kernel
theorem dX1_forgetLast_29 : decode cX1_forgetLast 29 = .ok (.invokevirtual 37, 3) := by decide +kernel
theorem dX1_forgetLast_32 : decode cX1_forgetLast 32 = .ok (.aload_n 0, 1) := by decide +kernel
theorem dX1_forgetLast_33 : decode cX1_forgetLast 33 = .ok (.getfield 23, 3) := by decide +kernel
theorem dX1_forgetLast_36 : decode cX1_forgetLast 36 = .ok (.aload_n 0, 1) := by decide +kernel
theorem dX1_forgetLast_37 : decode cX1_forgetLast 37 = .ok (.getfield 23, 3) := by decide +kernel
theorem dX1_forgetLast_40 : decode cX1_forgetLast 40 = .ok (.getfield 26, 3) := by decide +kernel
theorem dX1_forgetLast_43 : decode cX1_forgetLast 43 = .ok (.iconst 1, 1) := by decide +kernel
theorem dX1_forgetLast_44 : decode cX1_forgetLast 44 = .ok (.isub, 1) := by decide +kernel
theorem dX1_forgetLast_45 : decode cX1_forgetLast 45 = .ok (.invokevirtual 37, 3) := by decide +kernel
theorem dX1_forgetLast_48 : decode cX1_forgetLast 48 = .ok (.return_, 1) := by decide +kernel
theorem dX1_shiftBehind_0 : decode cX1_shiftBehind 0 = .ok (.iconst 0, 1) := by decide +kernel
theorem dX1_shiftBehind_1 : decode cX1_shiftBehind 1 = .ok (.istore_n 3, 1) := by decide +kernel
theorem dX1_shiftBehind_2 : decode cX1_shiftBehind 2 = .ok (.iload_n 3, 1) := by decide +kernel
theorem dX1_shiftBehind_3 : decode cX1_shiftBehind 3 = .ok (.aload_n 0, 1) := by decide +kernel
theorem dX1_shiftBehind_4 : decode cX1_shiftBehind 4 = .ok (.getfield 14, 3) := by decide +kernel
theorem dX1_shiftBehind_7 : decode cX1_shiftBehind 7 = .ok (.getfield 26, 3) := by decide +kernel
theorem dX1_shiftBehind_10 : decode cX1_shiftBehind 10 = .ok (.if_icmp .ge 37, 3) := by decide +kernel
theorem dX1_shiftBehind_13 : decode cX1_shiftBehind 13 = .ok (.aload_n 0, 1) := by decide +kernel
theorem dX1_shiftBehind_14 : decode cX1_shiftBehind 14 = .ok (.getfield 14, 3) := by decide +kernel
theorem dX1_shiftBehind_17 : decode cX1_shiftBehind 17 = .ok (.iload_n 3, 1) := by decide +kernel
theorem dX1_shiftBehind_18 : decode cX1_shiftBehind 18 = .ok (.invokevirtual 33, 3) := by decide +kernel
theorem dX1_shiftBehind_21 : decode cX1_shiftBehind 21 = .ok (.istore 4, 2) := by decide +kernel
theorem dX1_shiftBehind_23 : decode cX1_shiftBehind 23 = .ok (.iload 4, 2) := by decide +kernel
theorem dX1_shiftBehind_25 : decode cX1_shiftBehind 25 = .ok (.iload_n 1, 1) := by decide +kernel
theorem dX1_shiftBehind_26 : decode cX1_shiftBehind 26 = .ok (.if_icmp .le 15, 3) := by decide +kernel
theorem dX1_shiftBehind_29 : decode cX1_shiftBehind 29 = .ok (.aload_n 0, 1) := by decide +kernel
theorem dX1_shiftBehind_30 : decode cX1_shiftBehind 30 = .ok (.getfield 14, 3) := by decide +kernel
theorem dX1_shiftBehind_33 : decode cX1_shiftBehind 33 = .ok (.iload_n 3, 1) := by decide +kernel
theorem dX1_shiftBehind_34 : decode cX1_shiftBehind 34 = .ok (.iload 4, 2) := by decide +kernel
theorem dX1_shiftBehind_36 : decode cX1_shiftBehind 36 = .ok (.iload_n 2, 1) := by decide +kernel
theorem dX1_shiftBehind_37 : decode cX1_shiftBehind 37 = .ok (.iadd, 1) := by decide +kernel
theorem dX1_shiftBehind_38 : decode cX1_shiftBehind 38 = .ok (.invokevirtual 40, 3) := by decide +kernel
theorem dX1_shiftBehind_41 : decode cX1_shiftBehind 41 = .ok (.iinc 3 1, 3) := by decide +kernel
theorem dX1_shiftBehind_44 : decode cX1_shiftBehind 44 = .ok (.goto (-42), 3) := by decide +kernel
theorem dX1_shiftBehind_47 : decode cX1_shiftBehind 47 = .ok (.return_, 1) := by decide +kernel
theorem dX2_init_0 : decode cX2_init 0 = .ok (.aload_n 0, 1) := by decide +kernel
theorem dX2_init_1 : decode cX2_init 1 = .ok (.invokespecial 1, 3) := by decide +kernel
theorem dX2_init_4 : decode cX2_init 4 = .ok (.aload_n 0, 1) := by decide +kernel
theorem dX2_init_5 : decode cX2_init 5 = .ok (.iload_n 1, 1) := by decide +kernel
theorem dX2_init_6 : decode cX2_init 6 = .ok (.ifCond .ge 7, 3) := by decide +kernel
theorem dX2_init_9 : decode cX2_init 9 = .ok (.iconst 0, 1) := by decide +kernel
theorem dX2_init_10 : decode cX2_init 10 = .ok (.goto 4, 3) := by decide +kernel
theorem dX2_init_13 : decode cX2_init 13 = .ok (.iload_n 1, 1) := by decide +kernel
theorem dX2_init_14 : decode cX2_init 14 = .ok (.newarray .int, 2) := by decide +kernel
theorem dX2_init_16 : decode cX2_init 16 = .ok (.putfield 7, 3) := by decide +kernel
theorem dX2_init_19 : decode cX2_init 19 = .ok (.return_, 1) := by decide +kernel
theorem dX2_has_0 : decode cX2_has 0 = .ok (.iload_n 1, 1) := by decide +kernel
theorem dX2_has_1 : decode cX2_has 1 = .ok (.ifCond .lt 24, 3) := by decide +kernel
theorem dX2_has_4 : decode cX2_has 4 = .ok (.iload_n 1, 1) := by decide +kernel
theorem dX2_has_5 : decode cX2_has 5 = .ok (.aload_n 0, 1) := by decide +kernel
theorem dX2_has_6 : decode cX2_has 6 = .ok (.getfield 13, 3) := by decide +kernel
theorem dX2_has_9 : decode cX2_has 9 = .ok (.if_icmp .ge 16, 3) := by decide +kernel
theorem dX2_has_12 : decode cX2_has 12 = .ok (.iload_n 1, 1) := by decide +kernel
theorem dX2_has_13 : decode cX2_has 13 = .ok (.aload_n 0, 1) := by decide +kernel
theorem dX2_has_14 : decode cX2_has 14 = .ok (.getfield 7, 3) := by decide +kernel
theorem dX2_has_17 : decode cX2_has 17 = .ok (.arraylength, 1) := by decide +kernel
theorem dX2_has_18 : decode cX2_has 18 = .ok (.if_icmp .ge 7, 3) := by decide +kernel
theorem dX2_has_21 : decode cX2_has 21 = .ok (.iconst 1, 1) := by decide +kernel
theorem dX2_has_22 : decode cX2_has 22 = .ok (.goto 4, 3) := by decide +kernel
theorem dX2_has_25 : decode cX2_has 25 = .ok (.iconst 0, 1) := by decide +kernel
theorem dX2_has_26 : decode cX2_has 26 = .ok (.ireturn, 1) := by decide +kernel
theorem dX2_at_0 : decode cX2_at 0 = .ok (.aload_n 0, 1) := by decide +kernel
theorem dX2_at_1 : decode cX2_at 1 = .ok (.iload_n 1, 1) := by decide +kernel
theorem dX2_at_2 : decode cX2_at 2 = .ok (.invokevirtual 17, 3) := by decide +kernel
theorem dX2_at_5 : decode cX2_at 5 = .ok (.ifCond .eq 12, 3) := by decide +kernel
theorem dX2_at_8 : decode cX2_at 8 = .ok (.aload_n 0, 1) := by decide +kernel
theorem dX2_at_9 : decode cX2_at 9 = .ok (.getfield 7, 3) := by decide +kernel
theorem dX2_at_12 : decode cX2_at 12 = .ok (.iload_n 1, 1) := by decide +kernel
theorem dX2_at_13 : decode cX2_at 13 = .ok (.iaload, 1) := by decide +kernel
theorem dX2_at_14 : decode cX2_at 14 = .ok (.goto 4, 3) := by decide +kernel
theorem dX2_at_17 : decode cX2_at 17 = .ok (.iconst (-1), 1) := by decide +kernel
theorem dX2_at_18 : decode cX2_at 18 = .ok (.ireturn, 1) := by decide +kernel
theorem dX2_change_0 : decode cX2_change 0 = .ok (.aload_n 0, 1) := by decide +kernel
theorem dX2_change_1 : decode cX2_change 1 = .ok (.iload_n 1, 1) := by decide +kernel
theorem dX2_change_2 : decode cX2_change 2 = .ok (.invokevirtual 17, 3) := by decide +kernel
theorem dX2_change_5 : decode cX2_change 5 = .ok (.ifCond .eq 10, 3) := by decide +kernel
theorem dX2_change_8 : decode cX2_change 8 = .ok (.aload_n 0, 1) := by decide +kernel
theorem dX2_change_9 : decode cX2_change 9 = .ok (.getfield 7, 3) := by decide +kernel
theorem dX2_change_12 : decode cX2_change 12 = .ok (.iload_n 1, 1) := by decide +kernel
theorem dX2_change_13 : decode cX2_change 13 = .ok (.iload_n 2, 1) := by decide +kernel
theorem dX2_change_14 : decode cX2_change 14 = .ok (.iastore, 1) := by decide +kernel
theorem dX2_change_15 : decode cX2_change 15 = .ok (.return_, 1) := by decide +kernel
