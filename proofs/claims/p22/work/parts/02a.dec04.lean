theorem dX6_checkLetter_0 : decode cX6_checkLetter 0 = .ok (.iload_n 0, 1) := by decide +kernel
theorem dX6_checkLetter_1 : decode cX6_checkLetter 1 = .ok (.ifCond .lt 9, 3) := by decide +kernel
theorem dX6_checkLetter_4 : decode cX6_checkLetter 4 = .ok (.iload_n 0, 1) := by decide +kernel
theorem dX6_checkLetter_5 : decode cX6_checkLetter 5 = .ok (.bipush 25, 2) := by decide +kernel
theorem dX6_checkLetter_7 : decode cX6_checkLetter 7 = .ok (.if_icmp .le 13, 3) := by decide +kernel
theorem dX6_checkLetter_10 : decode cX6_checkLetter 10 = .ok (.new 242, 3) := by decide +kernel
theorem dX6_checkLetter_13 : decode cX6_checkLetter 13 = .ok (.dup, 1) := by decide +kernel
theorem dX6_checkLetter_14 : decode cX6_checkLetter 14 = .ok (.ldc 244, 2) := by decide +kernel
theorem dX6_checkLetter_16 : decode cX6_checkLetter 16 = .ok (.invokespecial 246, 3) := by decide +kernel
theorem dX6_checkLetter_19 : decode cX6_checkLetter 19 = .ok (.athrow, 1) := by decide +kernel
theorem dX6_checkLetter_20 : decode cX6_checkLetter 20 = .ok (.iload_n 1, 1) := by decide +kernel
theorem dX6_checkLetter_21 : decode cX6_checkLetter 21 = .ok (.ifCond .lt 8, 3) := by decide +kernel
theorem dX6_checkLetter_24 : decode cX6_checkLetter 24 = .ok (.iload_n 1, 1) := by decide +kernel
theorem dX6_checkLetter_25 : decode cX6_checkLetter 25 = .ok (.iconst 1, 1) := by decide +kernel
theorem dX6_checkLetter_26 : decode cX6_checkLetter 26 = .ok (.if_icmp .le 13, 3) := by decide +kernel
theorem dX6_checkLetter_29 : decode cX6_checkLetter 29 = .ok (.new 242, 3) := by decide +kernel
theorem dX6_checkLetter_32 : decode cX6_checkLetter 32 = .ok (.dup, 1) := by decide +kernel
theorem dX6_checkLetter_33 : decode cX6_checkLetter 33 = .ok (.ldc 247, 2) := by decide +kernel
theorem dX6_checkLetter_35 : decode cX6_checkLetter 35 = .ok (.invokespecial 246, 3) := by decide +kernel
theorem dX6_checkLetter_38 : decode cX6_checkLetter 38 = .ok (.athrow, 1) := by decide +kernel
theorem dX6_checkLetter_39 : decode cX6_checkLetter 39 = .ok (.return_, 1) := by decide +kernel
theorem dX6_checkCopyNotFull_0 : decode cX6_checkCopyNotFull 0 = .ok (.aload_n 0, 1) := by decide +kernel
theorem dX6_checkCopyNotFull_1 : decode cX6_checkCopyNotFull 1 = .ok (.iload_n 1, 1) := by decide +kernel
theorem dX6_checkCopyNotFull_2 : decode cX6_checkCopyNotFull 2 = .ok (.invokevirtual 69, 3) := by decide +kernel
theorem dX6_checkCopyNotFull_5 : decode cX6_checkCopyNotFull 5 = .ok (.getfield 97, 3) := by decide +kernel
theorem dX6_checkCopyNotFull_8 : decode cX6_checkCopyNotFull 8 = .ok (.invokevirtual 150, 3) := by decide +kernel
theorem dX6_checkCopyNotFull_11 : decode cX6_checkCopyNotFull 11 = .ok (.bipush 40, 2) := by decide +kernel
theorem dX6_checkCopyNotFull_13 : decode cX6_checkCopyNotFull 13 = .ok (.if_icmp .lt 13, 3) := by decide +kernel
theorem dX6_checkCopyNotFull_16 : decode cX6_checkCopyNotFull 16 = .ok (.new 39, 3) := by decide +kernel
theorem dX6_checkCopyNotFull_19 : decode cX6_checkCopyNotFull 19 = .ok (.dup, 1) := by decide +kernel
theorem dX6_checkCopyNotFull_20 : decode cX6_checkCopyNotFull 20 = .ok (.ldc 249, 2) := by decide +kernel
theorem dX6_checkCopyNotFull_22 : decode cX6_checkCopyNotFull 22 = .ok (.invokespecial 43, 3) := by decide +kernel
theorem dX6_checkCopyNotFull_25 : decode cX6_checkCopyNotFull 25 = .ok (.athrow, 1) := by decide +kernel
theorem dX6_checkCopyNotFull_26 : decode cX6_checkCopyNotFull 26 = .ok (.return_, 1) := by decide +kernel
theorem dX6_checkWayNotFull_0 : decode cX6_checkWayNotFull 0 = .ok (.aload_n 0, 1) := by decide +kernel
theorem dX6_checkWayNotFull_1 : decode cX6_checkWayNotFull 1 = .ok (.iload_n 1, 1) := by decide +kernel
theorem dX6_checkWayNotFull_2 : decode cX6_checkWayNotFull 2 = .ok (.invokevirtual 82, 3) := by decide +kernel
theorem dX6_checkWayNotFull_5 : decode cX6_checkWayNotFull 5 = .ok (.getfield 85, 3) := by decide +kernel
theorem dX6_checkWayNotFull_8 : decode cX6_checkWayNotFull 8 = .ok (.invokevirtual 89, 3) := by decide +kernel
theorem dX6_checkWayNotFull_11 : decode cX6_checkWayNotFull 11 = .ok (.bipush 12, 2) := by decide +kernel
theorem dX6_checkWayNotFull_13 : decode cX6_checkWayNotFull 13 = .ok (.if_icmp .lt 13, 3) := by decide +kernel
theorem dX6_checkWayNotFull_16 : decode cX6_checkWayNotFull 16 = .ok (.new 39, 3) := by decide +kernel
theorem dX6_checkWayNotFull_19 : decode cX6_checkWayNotFull 19 = .ok (.dup, 1) := by decide +kernel
theorem dX6_checkWayNotFull_20 : decode cX6_checkWayNotFull 20 = .ok (.ldc 251, 2) := by decide +kernel
theorem dX6_checkWayNotFull_22 : decode cX6_checkWayNotFull 22 = .ok (.invokespecial 43, 3) := by decide +kernel
theorem dX6_checkWayNotFull_25 : decode cX6_checkWayNotFull 25 = .ok (.athrow, 1) := by decide +kernel
theorem dX6_checkWayNotFull_26 : decode cX6_checkWayNotFull 26 = .ok (.return_, 1) := by decide +kernel
theorem dX6_who_0 : decode cX6_who 0 = .ok (.iload_n 1, 1) := by decide +kernel
theorem dX6_who_1 : decode cX6_who 1 = .ok (.ifCond .ne 10, 3) := by decide +kernel
theorem dX6_who_4 : decode cX6_who 4 = .ok (.aload_n 0, 1) := by decide +kernel
theorem dX6_who_5 : decode cX6_who 5 = .ok (.getfield 10, 3) := by decide +kernel
theorem dX6_who_8 : decode cX6_who 8 = .ok (.goto 7, 3) := by decide +kernel
theorem dX6_who_11 : decode cX6_who 11 = .ok (.aload_n 0, 1) := by decide +kernel
theorem dX6_who_12 : decode cX6_who 12 = .ok (.getfield 16, 3) := by decide +kernel
theorem dX6_who_15 : decode cX6_who 15 = .ok (.areturn, 1) := by decide +kernel
theorem dX6_other_0 : decode cX6_other 0 = .ok (.iload_n 1, 1) := by decide +kernel
theorem dX6_other_1 : decode cX6_other 1 = .ok (.ifCond .ne 10, 3) := by decide +kernel
theorem dX6_other_4 : decode cX6_other 4 = .ok (.aload_n 0, 1) := by decide +kernel
theorem dX6_other_5 : decode cX6_other 5 = .ok (.getfield 16, 3) := by decide +kernel
theorem dX6_other_8 : decode cX6_other 8 = .ok (.goto 7, 3) := by decide +kernel
theorem dX6_other_11 : decode cX6_other 11 = .ok (.aload_n 0, 1) := by decide +kernel
theorem dX6_other_12 : decode cX6_other 12 = .ok (.getfield 10, 3) := by decide +kernel
theorem dX6_other_15 : decode cX6_other 15 = .ok (.areturn, 1) := by decide +kernel
theorem dX6_newMark_0 : decode cX6_newMark 0 = .ok (.aload_n 0, 1) := by decide +kernel
theorem dX6_newMark_1 : decode cX6_newMark 1 = .ok (.dup, 1) := by decide +kernel
theorem dX6_newMark_2 : decode cX6_newMark 2 = .ok (.getfield 253, 3) := by decide +kernel
theorem dX6_newMark_5 : decode cX6_newMark 5 = .ok (.iconst 1, 1) := by decide +kernel
theorem dX6_newMark_6 : decode cX6_newMark 6 = .ok (.iadd, 1) := by decide +kernel
theorem dX6_newMark_7 : decode cX6_newMark 7 = .ok (.putfield 253, 3) := by decide +kernel
theorem dX6_newMark_10 : decode cX6_newMark 10 = .ok (.aload_n 0, 1) := by decide +kernel
theorem dX6_newMark_11 : decode cX6_newMark 11 = .ok (.getfield 253, 3) := by decide +kernel
theorem dX6_newMark_14 : decode cX6_newMark 14 = .ok (.ireturn, 1) := by decide +kernel
theorem dX6_strikeAt_0 : decode cX6_strikeAt 0 = .ok (.new 19, 3) := by decide +kernel
theorem dX6_strikeAt_3 : decode cX6_strikeAt 3 = .ok (.dup, 1) := by decide +kernel
theorem dX6_strikeAt_4 : decode cX6_strikeAt 4 = .ok (.iconst 2, 1) := by decide +kernel
theorem dX6_strikeAt_5 : decode cX6_strikeAt 5 = .ok (.iload_n 0, 1) := by decide +kernel
theorem dX6_strikeAt_6 : decode cX6_strikeAt 6 = .ok (.iconst (-1), 1) := by decide +kernel
theorem dX6_strikeAt_7 : decode cX6_strikeAt 7 = .ok (.iconst (-1), 1) := by decide +kernel
theorem dX6_strikeAt_8 : decode cX6_strikeAt 8 = .ok (.iconst (-1), 1) := by decide +kernel
theorem dX6_strikeAt_9 : decode cX6_strikeAt 9 = .ok (.invokespecial 21, 3) := by decide +kernel
theorem dX6_strikeAt_12 : decode cX6_strikeAt 12 = .ok (.areturn, 1) := by decide +kernel
theorem dX6_write_0 : decode cX6_write 0 = .ok (.aload_n 0, 1) := by decide +kernel
theorem dX6_write_1 : decode cX6_write 1 = .ok (.iload_n 1, 1) := by decide +kernel
theorem dX6_write_2 : decode cX6_write 2 = .ok (.invokevirtual 69, 3) := by decide +kernel
theorem dX6_write_5 : decode cX6_write 5 = .ok (.astore_n 3, 1) := by decide +kernel
theorem dX6_write_6 : decode cX6_write 6 = .ok (.aload_n 3, 1) := by decide +kernel
theorem dX6_write_7 : decode cX6_write 7 = .ok (.aload_n 2, 1) := by decide +kernel
theorem dX6_write_8 : decode cX6_write 8 = .ok (.iload_n 1, 1) := by decide +kernel
theorem dX6_write_9 : decode cX6_write 9 = .ok (.invokevirtual 256, 3) := by decide +kernel
theorem dX6_write_12 : decode cX6_write 12 = .ok (.aload_n 3, 1) := by decide +kernel
theorem dX6_write_13 : decode cX6_write 13 = .ok (.dup, 1) := by decide +kernel
theorem dX6_write_14 : decode cX6_write 14 = .ok (.getfield 151, 3) := by decide +kernel
theorem dX6_write_17 : decode cX6_write 17 = .ok (.iconst 1, 1) := by decide +kernel
theorem dX6_write_18 : decode cX6_write 18 = .ok (.iadd, 1) := by decide +kernel
theorem dX6_write_19 : decode cX6_write 19 = .ok (.putfield 151, 3) := by decide +kernel
theorem dX6_write_22 : decode cX6_write 22 = .ok (.aload_n 3, 1) := by decide +kernel
theorem dX6_write_23 : decode cX6_write 23 = .ok (.getfield 85, 3) := by decide +kernel
theorem dX6_write_26 : decode cX6_write 26 = .ok (.invokevirtual 89, 3) := by decide +kernel
theorem dX6_write_29 : decode cX6_write 29 = .ok (.istore 4, 2) := by decide +kernel
theorem dX6_write_31 : decode cX6_write 31 = .ok (.iconst 0, 1) := by decide +kernel
theorem dX6_write_32 : decode cX6_write 32 = .ok (.istore 5, 2) := by decide +kernel
theorem dX6_write_34 : decode cX6_write 34 = .ok (.iload 5, 2) := by decide +kernel
theorem dX6_write_36 : decode cX6_write 36 = .ok (.iload 4, 2) := by decide +kernel
theorem dX6_write_38 : decode cX6_write 38 = .ok (.if_icmp .ge 41, 3) := by decide +kernel
theorem dX6_write_41 : decode cX6_write 41 = .ok (.aload_n 3, 1) := by decide +kernel
theorem dX6_write_42 : decode cX6_write 42 = .ok (.getfield 85, 3) := by decide +kernel
theorem dX6_write_45 : decode cX6_write 45 = .ok (.iload 5, 2) := by decide +kernel
theorem dX6_write_47 : decode cX6_write 47 = .ok (.aload_n 0, 1) := by decide +kernel
theorem dX6_write_48 : decode cX6_write 48 = .ok (.getfield 24, 3) := by decide +kernel
theorem dX6_write_51 : decode cX6_write 51 = .ok (.invokevirtual 206, 3) := by decide +kernel
theorem dX6_write_54 : decode cX6_write 54 = .ok (.aload_n 0, 1) := by decide +kernel
theorem dX6_write_55 : decode cX6_write 55 = .ok (.iload_n 1, 1) := by decide +kernel
theorem dX6_write_56 : decode cX6_write 56 = .ok (.aload_n 2, 1) := by decide +kernel
theorem dX6_write_57 : decode cX6_write 57 = .ok (.invokevirtual 260, 3) := by decide +kernel
theorem dX6_write_60 : decode cX6_write 60 = .ok (.aload_n 3, 1) := by decide +kernel
theorem dX6_write_61 : decode cX6_write 61 = .ok (.getfield 85, 3) := by decide +kernel
theorem dX6_write_64 : decode cX6_write 64 = .ok (.iload 5, 2) := by decide +kernel
theorem dX6_write_66 : decode cX6_write 66 = .ok (.aload_n 0, 1) := by decide +kernel
theorem dX6_write_67 : decode cX6_write 67 = .ok (.getfield 24, 3) := by decide +kernel
theorem dX6_write_70 : decode cX6_write 70 = .ok (.invokevirtual 263, 3) := by decide +kernel
theorem dX6_write_73 : decode cX6_write 73 = .ok (.iinc 5 1, 3) := by decide +kernel
theorem dX6_write_76 : decode cX6_write 76 = .ok (.goto (-42), 3) := by decide +kernel
theorem dX6_write_79 : decode cX6_write 79 = .ok (.aload_n 0, 1) := by decide +kernel
theorem dX6_write_80 : decode cX6_write 80 = .ok (.iload_n 1, 1) := by decide +kernel
theorem dX6_write_81 : decode cX6_write 81 = .ok (.invokevirtual 82, 3) := by decide +kernel
theorem dX6_write_84 : decode cX6_write 84 = .ok (.getfield 85, 3) := by decide +kernel
theorem dX6_write_87 : decode cX6_write 87 = .ok (.aload_n 2, 1) := by decide +kernel
theorem dX6_write_88 : decode cX6_write 88 = .ok (.invokevirtual 266, 3) := by decide +kernel
theorem dX6_write_91 : decode cX6_write 91 = .ok (.return_, 1) := by decide +kernel
theorem dX6_meetOne_0 : decode cX6_meetOne 0 = .ok (.aload_n 2, 1) := by decide +kernel
theorem dX6_meetOne_1 : decode cX6_meetOne 1 = .ok (.getfield 209, 3) := by decide +kernel
theorem dX6_meetOne_4 : decode cX6_meetOne 4 = .ok (.iconst 1, 1) := by decide +kernel
theorem dX6_meetOne_5 : decode cX6_meetOne 5 = .ok (.if_icmp .ne 38, 3) := by decide +kernel
theorem dX6_meetOne_8 : decode cX6_meetOne 8 = .ok (.aload_n 0, 1) := by decide +kernel
theorem dX6_meetOne_9 : decode cX6_meetOne 9 = .ok (.getfield 24, 3) := by decide +kernel
theorem dX6_meetOne_12 : decode cX6_meetOne 12 = .ok (.getfield 209, 3) := by decide +kernel
theorem dX6_meetOne_15 : decode cX6_meetOne 15 = .ok (.iconst 1, 1) := by decide +kernel
theorem dX6_meetOne_16 : decode cX6_meetOne 16 = .ok (.if_icmp .ne 27, 3) := by decide +kernel
theorem dX6_meetOne_19 : decode cX6_meetOne 19 = .ok (.aload_n 2, 1) := by decide +kernel
theorem dX6_meetOne_20 : decode cX6_meetOne 20 = .ok (.getfield 212, 3) := by decide +kernel
theorem dX6_meetOne_23 : decode cX6_meetOne 23 = .ok (.aload_n 0, 1) := by decide +kernel
theorem dX6_meetOne_24 : decode cX6_meetOne 24 = .ok (.getfield 24, 3) := by decide +kernel
theorem dX6_meetOne_27 : decode cX6_meetOne 27 = .ok (.getfield 212, 3) := by decide +kernel
theorem dX6_meetOne_30 : decode cX6_meetOne 30 = .ok (.if_icmp .ne 13, 3) := by decide +kernel
theorem dX6_meetOne_33 : decode cX6_meetOne 33 = .ok (.aload_n 0, 1) := by decide +kernel
theorem dX6_meetOne_34 : decode cX6_meetOne 34 = .ok (.dup, 1) := by decide +kernel
theorem dX6_meetOne_35 : decode cX6_meetOne 35 = .ok (.getfield 185, 3) := by decide +kernel
theorem dX6_meetOne_38 : decode cX6_meetOne 38 = .ok (.iconst 1, 1) := by decide +kernel
theorem dX6_meetOne_39 : decode cX6_meetOne 39 = .ok (.iadd, 1) := by decide +kernel
theorem dX6_meetOne_40 : decode cX6_meetOne 40 = .ok (.putfield 185, 3) := by decide +kernel
theorem dX6_meetOne_43 : decode cX6_meetOne 43 = .ok (.aload_n 0, 1) := by decide +kernel
theorem dX6_meetOne_44 : decode cX6_meetOne 44 = .ok (.iload_n 1, 1) := by decide +kernel
theorem dX6_meetOne_45 : decode cX6_meetOne 45 = .ok (.aload_n 2, 1) := by decide +kernel
theorem dX6_meetOne_46 : decode cX6_meetOne 46 = .ok (.aload_n 0, 1) := by decide +kernel
theorem dX6_meetOne_47 : decode cX6_meetOne 47 = .ok (.getfield 24, 3) := by decide +kernel
theorem dX6_meetOne_50 : decode cX6_meetOne 50 = .ok (.invokevirtual 215, 3) := by decide +kernel
theorem dX6_meetOne_53 : decode cX6_meetOne 53 = .ok (.istore_n 3, 1) := by decide +kernel
theorem dX6_meetOne_54 : decode cX6_meetOne 54 = .ok (.aload_n 2, 1) := by decide +kernel
theorem dX6_meetOne_55 : decode cX6_meetOne 55 = .ok (.getfield 209, 3) := by decide +kernel
theorem dX6_meetOne_58 : decode cX6_meetOne 58 = .ok (.istore 4, 2) := by decide +kernel
theorem dX6_meetOne_60 : decode cX6_meetOne 60 = .ok (.aload_n 2, 1) := by decide +kernel
theorem dX6_meetOne_61 : decode cX6_meetOne 61 = .ok (.getfield 212, 3) := by decide +kernel
theorem dX6_meetOne_64 : decode cX6_meetOne 64 = .ok (.istore 5, 2) := by decide +kernel
theorem dX6_meetOne_66 : decode cX6_meetOne 66 = .ok (.aload_n 2, 1) := by decide +kernel
theorem dX6_meetOne_67 : decode cX6_meetOne 67 = .ok (.aload_n 0, 1) := by decide +kernel
theorem dX6_meetOne_68 : decode cX6_meetOne 68 = .ok (.getfield 24, 3) := by decide +kernel
theorem dX6_meetOne_71 : decode cX6_meetOne 71 = .ok (.getfield 209, 3) := by decide +kernel
theorem dX6_meetOne_74 : decode cX6_meetOne 74 = .ok (.aload_n 0, 1) := by decide +kernel
theorem dX6_meetOne_75 : decode cX6_meetOne 75 = .ok (.getfield 24, 3) := by decide +kernel
theorem dX6_meetOne_78 : decode cX6_meetOne 78 = .ok (.getfield 212, 3) := by decide +kernel
theorem dX6_meetOne_81 : decode cX6_meetOne 81 = .ok (.iload_n 3, 1) := by decide +kernel
theorem dX6_meetOne_82 : decode cX6_meetOne 82 = .ok (.invokevirtual 219, 3) := by decide +kernel
theorem dX6_meetOne_85 : decode cX6_meetOne 85 = .ok (.aload_n 0, 1) := by decide +kernel
theorem dX6_meetOne_86 : decode cX6_meetOne 86 = .ok (.getfield 24, 3) := by decide +kernel
theorem dX6_meetOne_89 : decode cX6_meetOne 89 = .ok (.iload 4, 2) := by decide +kernel
theorem dX6_meetOne_91 : decode cX6_meetOne 91 = .ok (.iload 5, 2) := by decide +kernel
theorem dX6_meetOne_93 : decode cX6_meetOne 93 = .ok (.iload_n 3, 1) := by decide +kernel
theorem dX6_meetOne_94 : decode cX6_meetOne 94 = .ok (.ifCond .ne 7, 3) := by decide +kernel
theorem dX6_meetOne_97 : decode cX6_meetOne 97 = .ok (.iconst 1, 1) := by decide +kernel
theorem dX6_meetOne_98 : decode cX6_meetOne 98 = .ok (.goto 4, 3) := by decide +kernel
theorem dX6_meetOne_101 : decode cX6_meetOne 101 = .ok (.iconst 0, 1) := by decide +kernel
theorem dX6_meetOne_102 : decode cX6_meetOne 102 = .ok (.invokevirtual 219, 3) := by decide +kernel
theorem dX6_meetOne_105 : decode cX6_meetOne 105 = .ok (.return_, 1) := by decide +kernel
theorem dX6_goesFirst_0 : decode cX6_goesFirst 0 = .ok (.aload_n 2, 1) := by decide +kernel
theorem dX6_goesFirst_1 : decode cX6_goesFirst 1 = .ok (.getfield 270, 3) := by decide +kernel
theorem dX6_goesFirst_4 : decode cX6_goesFirst 4 = .ok (.aload_n 3, 1) := by decide +kernel
theorem dX6_goesFirst_5 : decode cX6_goesFirst 5 = .ok (.getfield 270, 3) := by decide +kernel
theorem dX6_goesFirst_8 : decode cX6_goesFirst 8 = .ok (.if_icmp .eq 16, 3) := by decide +kernel
theorem dX6_goesFirst_11 : decode cX6_goesFirst 11 = .ok (.aload_n 2, 1) := by decide +kernel
theorem dX6_goesFirst_12 : decode cX6_goesFirst 12 = .ok (.getfield 270, 3) := by decide +kernel
theorem dX6_goesFirst_15 : decode cX6_goesFirst 15 = .ok (.ifCond .ne 7, 3) := by decide +kernel
theorem dX6_goesFirst_18 : decode cX6_goesFirst 18 = .ok (.iconst 1, 1) := by decide +kernel
theorem dX6_goesFirst_19 : decode cX6_goesFirst 19 = .ok (.goto 4, 3) := by decide +kernel
theorem dX6_goesFirst_22 : decode cX6_goesFirst 22 = .ok (.iconst 0, 1) := by decide +kernel
theorem dX6_goesFirst_23 : decode cX6_goesFirst 23 = .ok (.ireturn, 1) := by decide +kernel
theorem dX6_goesFirst_24 : decode cX6_goesFirst 24 = .ok (.aload_n 0, 1) := by decide +kernel
theorem dX6_goesFirst_25 : decode cX6_goesFirst 25 = .ok (.getfield 44, 3) := by decide +kernel
theorem dX6_goesFirst_28 : decode cX6_goesFirst 28 = .ok (.iconst 2, 1) := by decide +kernel
theorem dX6_goesFirst_29 : decode cX6_goesFirst 29 = .ok (.if_icmp .ne 31, 3) := by decide +kernel
theorem dX6_goesFirst_32 : decode cX6_goesFirst 32 = .ok (.aload_n 2, 1) := by decide +kernel
theorem dX6_goesFirst_33 : decode cX6_goesFirst 33 = .ok (.getfield 273, 3) := by decide +kernel
theorem dX6_goesFirst_36 : decode cX6_goesFirst 36 = .ok (.aload_n 3, 1) := by decide +kernel
theorem dX6_goesFirst_37 : decode cX6_goesFirst 37 = .ok (.getfield 273, 3) := by decide +kernel
theorem dX6_goesFirst_40 : decode cX6_goesFirst 40 = .ok (.if_icmp .eq 20, 3) := by decide +kernel
theorem dX6_goesFirst_43 : decode cX6_goesFirst 43 = .ok (.aload_n 2, 1) := by decide +kernel
theorem dX6_goesFirst_44 : decode cX6_goesFirst 44 = .ok (.getfield 273, 3) := by decide +kernel
theorem dX6_goesFirst_47 : decode cX6_goesFirst 47 = .ok (.aload_n 3, 1) := by decide +kernel
theorem dX6_goesFirst_48 : decode cX6_goesFirst 48 = .ok (.getfield 273, 3) := by decide +kernel
theorem dX6_goesFirst_51 : decode cX6_goesFirst 51 = .ok (.if_icmp .ge 7, 3) := by decide +kernel
theorem dX6_goesFirst_54 : decode cX6_goesFirst 54 = .ok (.iconst 1, 1) := by decide +kernel
theorem dX6_goesFirst_55 : decode cX6_goesFirst 55 = .ok (.goto 4, 3) := by decide +kernel
theorem dX6_goesFirst_58 : decode cX6_goesFirst 58 = .ok (.iconst 0, 1) := by decide +kernel
theorem dX6_goesFirst_59 : decode cX6_goesFirst 59 = .ok (.ireturn, 1) := by decide +kernel
theorem dX6_goesFirst_60 : decode cX6_goesFirst 60 = .ok (.iload_n 1, 1) := by decide +kernel
theorem dX6_goesFirst_61 : decode cX6_goesFirst 61 = .ok (.aload_n 0, 1) := by decide +kernel
theorem dX6_goesFirst_62 : decode cX6_goesFirst 62 = .ok (.getfield 44, 3) := by decide +kernel
theorem dX6_goesFirst_65 : decode cX6_goesFirst 65 = .ok (.iconst 1, 1) := by decide +kernel
theorem dX6_goesFirst_66 : decode cX6_goesFirst 66 = .ok (.if_icmp .ne 7, 3) := by decide +kernel
theorem dX6_goesFirst_69 : decode cX6_goesFirst 69 = .ok (.iconst 1, 1) := by decide +kernel
theorem dX6_goesFirst_70 : decode cX6_goesFirst 70 = .ok (.goto 4, 3) := by decide +kernel
theorem dX6_goesFirst_73 : decode cX6_goesFirst 73 = .ok (.iconst 0, 1) := by decide +kernel
theorem dX6_goesFirst_74 : decode cX6_goesFirst 74 = .ok (.if_icmp .ne 7, 3) := by decide +kernel
theorem dX6_goesFirst_77 : decode cX6_goesFirst 77 = .ok (.iconst 1, 1) := by decide +kernel
theorem dX6_goesFirst_78 : decode cX6_goesFirst 78 = .ok (.goto 4, 3) := by decide +kernel
theorem dX6_goesFirst_81 : decode cX6_goesFirst 81 = .ok (.iconst 0, 1) := by decide +kernel
theorem dX6_goesFirst_82 : decode cX6_goesFirst 82 = .ok (.ireturn, 1) := by decide +kernel
theorem dX6_takeFirst_0 : decode cX6_takeFirst 0 = .ok (.aload_n 0, 1) := by decide +kernel
theorem dX6_takeFirst_1 : decode cX6_takeFirst 1 = .ok (.iload_n 1, 1) := by decide +kernel
theorem dX6_takeFirst_2 : decode cX6_takeFirst 2 = .ok (.invokevirtual 69, 3) := by decide +kernel
theorem dX6_takeFirst_5 : decode cX6_takeFirst 5 = .ok (.astore_n 2, 1) := by decide +kernel
theorem dX6_takeFirst_6 : decode cX6_takeFirst 6 = .ok (.aload_n 2, 1) := by decide +kernel
theorem dX6_takeFirst_7 : decode cX6_takeFirst 7 = .ok (.getfield 85, 3) := by decide +kernel
theorem dX6_takeFirst_10 : decode cX6_takeFirst 10 = .ok (.iconst 0, 1) := by decide +kernel
theorem dX6_takeFirst_11 : decode cX6_takeFirst 11 = .ok (.aload_n 0, 1) := by decide +kernel
theorem dX6_takeFirst_12 : decode cX6_takeFirst 12 = .ok (.getfield 24, 3) := by decide +kernel
theorem dX6_takeFirst_15 : decode cX6_takeFirst 15 = .ok (.invokevirtual 206, 3) := by decide +kernel
theorem dX6_takeFirst_18 : decode cX6_takeFirst 18 = .ok (.aload_n 2, 1) := by decide +kernel
theorem dX6_takeFirst_19 : decode cX6_takeFirst 19 = .ok (.getfield 85, 3) := by decide +kernel
theorem dX6_takeFirst_22 : decode cX6_takeFirst 22 = .ok (.invokevirtual 276, 3) := by decide +kernel
theorem dX6_takeFirst_25 : decode cX6_takeFirst 25 = .ok (.aload_n 2, 1) := by decide +kernel
theorem dX6_takeFirst_26 : decode cX6_takeFirst 26 = .ok (.aload_n 0, 1) := by decide +kernel
theorem dX6_takeFirst_27 : decode cX6_takeFirst 27 = .ok (.getfield 24, 3) := by decide +kernel
theorem dX6_takeFirst_30 : decode cX6_takeFirst 30 = .ok (.iconst 1, 1) := by decide +kernel
theorem dX6_takeFirst_31 : decode cX6_takeFirst 31 = .ok (.iload_n 1, 1) := by decide +kernel
theorem dX6_takeFirst_32 : decode cX6_takeFirst 32 = .ok (.isub, 1) := by decide +kernel
theorem dX6_takeFirst_33 : decode cX6_takeFirst 33 = .ok (.invokevirtual 256, 3) := by decide +kernel
theorem dX6_takeFirst_36 : decode cX6_takeFirst 36 = .ok (.aload_n 2, 1) := by decide +kernel
theorem dX6_takeFirst_37 : decode cX6_takeFirst 37 = .ok (.dup, 1) := by decide +kernel
theorem dX6_takeFirst_38 : decode cX6_takeFirst 38 = .ok (.getfield 154, 3) := by decide +kernel
theorem dX6_takeFirst_41 : decode cX6_takeFirst 41 = .ok (.iconst 1, 1) := by decide +kernel
theorem dX6_takeFirst_42 : decode cX6_takeFirst 42 = .ok (.iadd, 1) := by decide +kernel
theorem dX6_takeFirst_43 : decode cX6_takeFirst 43 = .ok (.putfield 154, 3) := by decide +kernel
theorem dX6_takeFirst_46 : decode cX6_takeFirst 46 = .ok (.aload_n 0, 1) := by decide +kernel
theorem dX6_takeFirst_47 : decode cX6_takeFirst 47 = .ok (.getfield 24, 3) := by decide +kernel
theorem dX6_takeFirst_50 : decode cX6_takeFirst 50 = .ok (.getfield 209, 3) := by decide +kernel
theorem dX6_takeFirst_53 : decode cX6_takeFirst 53 = .ok (.ifCond .ne 13, 3) := by decide +kernel
theorem dX6_takeFirst_56 : decode cX6_takeFirst 56 = .ok (.aload_n 2, 1) := by decide +kernel
theorem dX6_takeFirst_57 : decode cX6_takeFirst 57 = .ok (.dup, 1) := by decide +kernel
theorem dX6_takeFirst_58 : decode cX6_takeFirst 58 = .ok (.getfield 157, 3) := by decide +kernel
theorem dX6_takeFirst_61 : decode cX6_takeFirst 61 = .ok (.iconst 1, 1) := by decide +kernel
theorem dX6_takeFirst_62 : decode cX6_takeFirst 62 = .ok (.iadd, 1) := by decide +kernel
theorem dX6_takeFirst_63 : decode cX6_takeFirst 63 = .ok (.putfield 157, 3) := by decide +kernel
theorem dX6_takeFirst_66 : decode cX6_takeFirst 66 = .ok (.aload_n 0, 1) := by decide +kernel
theorem dX6_takeFirst_67 : decode cX6_takeFirst 67 = .ok (.getfield 24, 3) := by decide +kernel
theorem dX6_takeFirst_70 : decode cX6_takeFirst 70 = .ok (.getfield 209, 3) := by decide +kernel
theorem dX6_takeFirst_73 : decode cX6_takeFirst 73 = .ok (.ireturn, 1) := by decide +kernel
theorem dX6_takeAll_0 : decode cX6_takeAll 0 = .ok (.aload_n 0, 1) := by decide +kernel
theorem dX6_takeAll_1 : decode cX6_takeAll 1 = .ok (.iload_n 1, 1) := by decide +kernel
theorem dX6_takeAll_2 : decode cX6_takeAll 2 = .ok (.invokevirtual 69, 3) := by decide +kernel
theorem dX6_takeAll_5 : decode cX6_takeAll 5 = .ok (.getfield 85, 3) := by decide +kernel
theorem dX6_takeAll_8 : decode cX6_takeAll 8 = .ok (.invokevirtual 89, 3) := by decide +kernel
theorem dX6_takeAll_11 : decode cX6_takeAll 11 = .ok (.istore_n 2, 1) := by decide +kernel
theorem dX6_takeAll_12 : decode cX6_takeAll 12 = .ok (.iload_n 2, 1) := by decide +kernel
theorem dX6_takeAll_13 : decode cX6_takeAll 13 = .ok (.ifCond .le 15, 3) := by decide +kernel
theorem dX6_takeAll_16 : decode cX6_takeAll 16 = .ok (.aload_n 0, 1) := by decide +kernel
theorem dX6_takeAll_17 : decode cX6_takeAll 17 = .ok (.iload_n 1, 1) := by decide +kernel
theorem dX6_takeAll_18 : decode cX6_takeAll 18 = .ok (.invokevirtual 141, 3) := by decide +kernel
theorem dX6_takeAll_21 : decode cX6_takeAll 21 = .ok (.pop, 1) := by decide +kernel
theorem dX6_takeAll_22 : decode cX6_takeAll 22 = .ok (.iinc 2 (-1), 3) := by decide +kernel
theorem dX6_takeAll_25 : decode cX6_takeAll 25 = .ok (.goto (-13), 3) := by decide +kernel
theorem dX6_takeAll_28 : decode cX6_takeAll 28 = .ok (.return_, 1) := by decide +kernel
