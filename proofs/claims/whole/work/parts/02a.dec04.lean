theorem dX6_digest_0 : decode cX6_digest 0 = .ok (.ldc2_w 225, 3) := by decide +kernel
theorem dX6_digest_3 : decode cX6_digest 3 = .ok (.lstore_n 1, 1) := by decide +kernel
theorem dX6_digest_4 : decode cX6_digest 4 = .ok (.iconst 0, 1) := by decide +kernel
theorem dX6_digest_5 : decode cX6_digest 5 = .ok (.istore_n 3, 1) := by decide +kernel
theorem dX6_digest_6 : decode cX6_digest 6 = .ok (.iload_n 3, 1) := by decide +kernel
theorem dX6_digest_7 : decode cX6_digest 7 = .ok (.bipush 6, 2) := by decide +kernel
theorem dX6_digest_9 : decode cX6_digest 9 = .ok (.if_icmp .gt 22, 3) := by decide +kernel
theorem dX6_digest_12 : decode cX6_digest 12 = .ok (.lload_n 1, 1) := by decide +kernel
theorem dX6_digest_13 : decode cX6_digest 13 = .ok (.ldc2_w 227, 3) := by decide +kernel
theorem dX6_digest_16 : decode cX6_digest 16 = .ok (.lmul, 1) := by decide +kernel
theorem dX6_digest_17 : decode cX6_digest 17 = .ok (.aload_n 0, 1) := by decide +kernel
theorem dX6_digest_18 : decode cX6_digest 18 = .ok (.iload_n 3, 1) := by decide +kernel
theorem dX6_digest_19 : decode cX6_digest 19 = .ok (.invokevirtual 229, 3) := by decide +kernel
theorem dX6_digest_22 : decode cX6_digest 22 = .ok (.i2l, 1) := by decide +kernel
theorem dX6_digest_23 : decode cX6_digest 23 = .ok (.ladd, 1) := by decide +kernel
theorem dX6_digest_24 : decode cX6_digest 24 = .ok (.lstore_n 1, 1) := by decide +kernel
theorem dX6_digest_25 : decode cX6_digest 25 = .ok (.iinc 3 1, 3) := by decide +kernel
theorem dX6_digest_28 : decode cX6_digest 28 = .ok (.goto (-22), 3) := by decide +kernel
theorem dX6_digest_31 : decode cX6_digest 31 = .ok (.aload_n 0, 1) := by decide +kernel
theorem dX6_digest_32 : decode cX6_digest 32 = .ok (.lload_n 1, 1) := by decide +kernel
theorem dX6_digest_33 : decode cX6_digest 33 = .ok (.iconst 0, 1) := by decide +kernel
theorem dX6_digest_34 : decode cX6_digest 34 = .ok (.invokevirtual 232, 3) := by decide +kernel
theorem dX6_digest_37 : decode cX6_digest 37 = .ok (.lstore_n 1, 1) := by decide +kernel
theorem dX6_digest_38 : decode cX6_digest 38 = .ok (.aload_n 0, 1) := by decide +kernel
theorem dX6_digest_39 : decode cX6_digest 39 = .ok (.lload_n 1, 1) := by decide +kernel
theorem dX6_digest_40 : decode cX6_digest 40 = .ok (.iconst 1, 1) := by decide +kernel
theorem dX6_digest_41 : decode cX6_digest 41 = .ok (.invokevirtual 232, 3) := by decide +kernel
theorem dX6_digest_44 : decode cX6_digest 44 = .ok (.lstore_n 1, 1) := by decide +kernel
theorem dX6_digest_45 : decode cX6_digest 45 = .ok (.aload_n 0, 1) := by decide +kernel
theorem dX6_digest_46 : decode cX6_digest 46 = .ok (.invokevirtual 179, 3) := by decide +kernel
theorem dX6_digest_49 : decode cX6_digest 49 = .ok (.istore_n 3, 1) := by decide +kernel
theorem dX6_digest_50 : decode cX6_digest 50 = .ok (.iconst 0, 1) := by decide +kernel
theorem dX6_digest_51 : decode cX6_digest 51 = .ok (.istore 4, 2) := by decide +kernel
theorem dX6_digest_53 : decode cX6_digest 53 = .ok (.iload 4, 2) := by decide +kernel
theorem dX6_digest_55 : decode cX6_digest 55 = .ok (.iload_n 3, 1) := by decide +kernel
theorem dX6_digest_56 : decode cX6_digest 56 = .ok (.if_icmp .ge 23, 3) := by decide +kernel
theorem dX6_digest_59 : decode cX6_digest 59 = .ok (.lload_n 1, 1) := by decide +kernel
theorem dX6_digest_60 : decode cX6_digest 60 = .ok (.ldc2_w 227, 3) := by decide +kernel
theorem dX6_digest_63 : decode cX6_digest 63 = .ok (.lmul, 1) := by decide +kernel
theorem dX6_digest_64 : decode cX6_digest 64 = .ok (.aload_n 0, 1) := by decide +kernel
theorem dX6_digest_65 : decode cX6_digest 65 = .ok (.iload 4, 2) := by decide +kernel
theorem dX6_digest_67 : decode cX6_digest 67 = .ok (.invokevirtual 199, 3) := by decide +kernel
theorem dX6_digest_70 : decode cX6_digest 70 = .ok (.i2l, 1) := by decide +kernel
theorem dX6_digest_71 : decode cX6_digest 71 = .ok (.ladd, 1) := by decide +kernel
theorem dX6_digest_72 : decode cX6_digest 72 = .ok (.lstore_n 1, 1) := by decide +kernel
theorem dX6_digest_73 : decode cX6_digest 73 = .ok (.iinc 4 1, 3) := by decide +kernel
theorem dX6_digest_76 : decode cX6_digest 76 = .ok (.goto (-23), 3) := by decide +kernel
theorem dX6_digest_79 : decode cX6_digest 79 = .ok (.lload_n 1, 1) := by decide +kernel
theorem dX6_digest_80 : decode cX6_digest 80 = .ok (.lreturn, 1) := by decide +kernel
theorem dX6_checkScribe_0 : decode cX6_checkScribe 0 = .ok (.iload_n 0, 1) := by decide +kernel
theorem dX6_checkScribe_1 : decode cX6_checkScribe 1 = .ok (.ifCond .lt 8, 3) := by decide +kernel
theorem dX6_checkScribe_4 : decode cX6_checkScribe 4 = .ok (.iload_n 0, 1) := by decide +kernel
theorem dX6_checkScribe_5 : decode cX6_checkScribe 5 = .ok (.iconst 1, 1) := by decide +kernel
theorem dX6_checkScribe_6 : decode cX6_checkScribe 6 = .ok (.if_icmp .le 13, 3) := by decide +kernel
theorem dX6_checkScribe_9 : decode cX6_checkScribe 9 = .ok (.new 28, 3) := by decide +kernel
theorem dX6_checkScribe_12 : decode cX6_checkScribe 12 = .ok (.dup, 1) := by decide +kernel
theorem dX6_checkScribe_13 : decode cX6_checkScribe 13 = .ok (.ldc 236, 2) := by decide +kernel
theorem dX6_checkScribe_15 : decode cX6_checkScribe 15 = .ok (.invokespecial 32, 3) := by decide +kernel
theorem dX6_checkScribe_18 : decode cX6_checkScribe 18 = .ok (.athrow, 1) := by decide +kernel
theorem dX6_checkScribe_19 : decode cX6_checkScribe 19 = .ok (.return_, 1) := by decide +kernel
theorem dX6_checkPlace_0 : decode cX6_checkPlace 0 = .ok (.iload_n 1, 1) := by decide +kernel
theorem dX6_checkPlace_1 : decode cX6_checkPlace 1 = .ok (.invokestatic 120, 3) := by decide +kernel
theorem dX6_checkPlace_4 : decode cX6_checkPlace 4 = .ok (.iload_n 2, 1) := by decide +kernel
theorem dX6_checkPlace_5 : decode cX6_checkPlace 5 = .ok (.ifCond .lt 18, 3) := by decide +kernel
theorem dX6_checkPlace_8 : decode cX6_checkPlace 8 = .ok (.iload_n 2, 1) := by decide +kernel
theorem dX6_checkPlace_9 : decode cX6_checkPlace 9 = .ok (.aload_n 0, 1) := by decide +kernel
theorem dX6_checkPlace_10 : decode cX6_checkPlace 10 = .ok (.iload_n 1, 1) := by decide +kernel
theorem dX6_checkPlace_11 : decode cX6_checkPlace 11 = .ok (.invokevirtual 69, 3) := by decide +kernel
theorem dX6_checkPlace_14 : decode cX6_checkPlace 14 = .ok (.getfield 97, 3) := by decide +kernel
theorem dX6_checkPlace_17 : decode cX6_checkPlace 17 = .ok (.invokevirtual 150, 3) := by decide +kernel
theorem dX6_checkPlace_20 : decode cX6_checkPlace 20 = .ok (.if_icmp .lt 13, 3) := by decide +kernel
theorem dX6_checkPlace_23 : decode cX6_checkPlace 23 = .ok (.new 28, 3) := by decide +kernel
theorem dX6_checkPlace_26 : decode cX6_checkPlace 26 = .ok (.dup, 1) := by decide +kernel
theorem dX6_checkPlace_27 : decode cX6_checkPlace 27 = .ok (.ldc 238, 2) := by decide +kernel
theorem dX6_checkPlace_29 : decode cX6_checkPlace 29 = .ok (.invokespecial 32, 3) := by decide +kernel
theorem dX6_checkPlace_32 : decode cX6_checkPlace 32 = .ok (.athrow, 1) := by decide +kernel
theorem dX6_checkPlace_33 : decode cX6_checkPlace 33 = .ok (.return_, 1) := by decide +kernel
theorem dX6_checkGap_0 : decode cX6_checkGap 0 = .ok (.iload_n 1, 1) := by decide +kernel
theorem dX6_checkGap_1 : decode cX6_checkGap 1 = .ok (.invokestatic 120, 3) := by decide +kernel
theorem dX6_checkGap_4 : decode cX6_checkGap 4 = .ok (.iload_n 2, 1) := by decide +kernel
theorem dX6_checkGap_5 : decode cX6_checkGap 5 = .ok (.ifCond .lt 18, 3) := by decide +kernel
theorem dX6_checkGap_8 : decode cX6_checkGap 8 = .ok (.iload_n 2, 1) := by decide +kernel
theorem dX6_checkGap_9 : decode cX6_checkGap 9 = .ok (.aload_n 0, 1) := by decide +kernel
theorem dX6_checkGap_10 : decode cX6_checkGap 10 = .ok (.iload_n 1, 1) := by decide +kernel
theorem dX6_checkGap_11 : decode cX6_checkGap 11 = .ok (.invokevirtual 69, 3) := by decide +kernel
theorem dX6_checkGap_14 : decode cX6_checkGap 14 = .ok (.getfield 97, 3) := by decide +kernel
theorem dX6_checkGap_17 : decode cX6_checkGap 17 = .ok (.invokevirtual 150, 3) := by decide +kernel
theorem dX6_checkGap_20 : decode cX6_checkGap 20 = .ok (.if_icmp .le 13, 3) := by decide +kernel
theorem dX6_checkGap_23 : decode cX6_checkGap 23 = .ok (.new 28, 3) := by decide +kernel
theorem dX6_checkGap_26 : decode cX6_checkGap 26 = .ok (.dup, 1) := by decide +kernel
theorem dX6_checkGap_27 : decode cX6_checkGap 27 = .ok (.ldc 240, 2) := by decide +kernel
theorem dX6_checkGap_29 : decode cX6_checkGap 29 = .ok (.invokespecial 32, 3) := by decide +kernel
theorem dX6_checkGap_32 : decode cX6_checkGap 32 = .ok (.athrow, 1) := by decide +kernel
theorem dX6_checkGap_33 : decode cX6_checkGap 33 = .ok (.return_, 1) := by decide +kernel
theorem dX6_checkLetter_0 : decode cX6_checkLetter 0 = .ok (.iload_n 0, 1) := by decide +kernel
theorem dX6_checkLetter_1 : decode cX6_checkLetter 1 = .ok (.ifCond .lt 9, 3) := by decide +kernel
theorem dX6_checkLetter_4 : decode cX6_checkLetter 4 = .ok (.iload_n 0, 1) := by decide +kernel
theorem dX6_checkLetter_5 : decode cX6_checkLetter 5 = .ok (.bipush 25, 2) := by decide +kernel
theorem dX6_checkLetter_7 : decode cX6_checkLetter 7 = .ok (.if_icmp .le 13, 3) := by decide +kernel
theorem dX6_checkLetter_10 : decode cX6_checkLetter 10 = .ok (.new 242, 3) := by decide +kernel
theorem dX6_checkLetter_13 : decode cX6_checkLetter 13 = .ok (.dup, 1) := by decide +kernel
theorem dX6_checkLetter_14 : decode cX6_checkLetter 14 = .ok (.ldc 244, 2) := by decide +kernel
theorem dX6_checkLetter_16 : decode cX6_checkLetter 16 = .ok (.invokespecial 246, 3) := by decide +kernel
theorem dX6_checkLetter_19 : decode cX6_checkLetter 19 = .ok (.athrow, 1) := by decide +kernel
theorem dX6_checkLetter_20 : decode cX6_checkLetter 20 = .ok (.iload_n 1, 1) := by decide +kernel
theorem dX6_checkLetter_21 : decode cX6_checkLetter 21 = .ok (.ifCond .lt 8, 3) := by decide +kernel
theorem dX6_checkLetter_24 : decode cX6_checkLetter 24 = .ok (.iload_n 1, 1) := by decide +kernel
theorem dX6_checkLetter_25 : decode cX6_checkLetter 25 = .ok (.iconst 1, 1) := by decide +kernel
theorem dX6_checkLetter_26 : decode cX6_checkLetter 26 = .ok (.if_icmp .le 13, 3) := by decide +kernel
theorem dX6_checkLetter_29 : decode cX6_checkLetter 29 = .ok (.new 242, 3) := by decide +kernel
theorem dX6_checkLetter_32 : decode cX6_checkLetter 32 = .ok (.dup, 1) := by decide +kernel
theorem dX6_checkLetter_33 : decode cX6_checkLetter 33 = .ok (.ldc 247, 2) := by decide +kernel
theorem dX6_checkLetter_35 : decode cX6_checkLetter 35 = .ok (.invokespecial 246, 3) := by decide +kernel
theorem dX6_checkLetter_38 : decode cX6_checkLetter 38 = .ok (.athrow, 1) := by decide +kernel
theorem dX6_checkLetter_39 : decode cX6_checkLetter 39 = .ok (.return_, 1) := by decide +kernel
theorem dX6_checkCopyNotFull_0 : decode cX6_checkCopyNotFull 0 = .ok (.aload_n 0, 1) := by decide +kernel
theorem dX6_checkCopyNotFull_1 : decode cX6_checkCopyNotFull 1 = .ok (.iload_n 1, 1) := by decide +kernel
theorem dX6_checkCopyNotFull_2 : decode cX6_checkCopyNotFull 2 = .ok (.invokevirtual 69, 3) := by decide +kernel
theorem dX6_checkCopyNotFull_5 : decode cX6_checkCopyNotFull 5 = .ok (.getfield 97, 3) := by decide +kernel
theorem dX6_checkCopyNotFull_8 : decode cX6_checkCopyNotFull 8 = .ok (.invokevirtual 150, 3) := by decide +kernel
theorem dX6_checkCopyNotFull_11 : decode cX6_checkCopyNotFull 11 = .ok (.bipush 40, 2) := by decide +kernel
theorem dX6_checkCopyNotFull_13 : decode cX6_checkCopyNotFull 13 = .ok (.if_icmp .lt 13, 3) := by decide +kernel
theorem dX6_checkCopyNotFull_16 : decode cX6_checkCopyNotFull 16 = .ok (.new 39, 3) := by decide +kernel
theorem dX6_checkCopyNotFull_19 : decode cX6_checkCopyNotFull 19 = .ok (.dup, 1) := by decide +kernel
theorem dX6_checkCopyNotFull_20 : decode cX6_checkCopyNotFull 20 = .ok (.ldc 249, 2) := by decide +kernel
theorem dX6_checkCopyNotFull_22 : decode cX6_checkCopyNotFull 22 = .ok (.invokespecial 43, 3) := by decide +kernel
theorem dX6_checkCopyNotFull_25 : decode cX6_checkCopyNotFull 25 = .ok (.athrow, 1) := by decide +kernel
theorem dX6_checkCopyNotFull_26 : decode cX6_checkCopyNotFull 26 = .ok (.return_, 1) := by decide +kernel
theorem dX6_checkWayNotFull_0 : decode cX6_checkWayNotFull 0 = .ok (.aload_n 0, 1) := by decide +kernel
theorem dX6_checkWayNotFull_1 : decode cX6_checkWayNotFull 1 = .ok (.iload_n 1, 1) := by decide +kernel
theorem dX6_checkWayNotFull_2 : decode cX6_checkWayNotFull 2 = .ok (.invokevirtual 82, 3) := by decide +kernel
theorem dX6_checkWayNotFull_5 : decode cX6_checkWayNotFull 5 = .ok (.getfield 85, 3) := by decide +kernel
theorem dX6_checkWayNotFull_8 : decode cX6_checkWayNotFull 8 = .ok (.invokevirtual 89, 3) := by decide +kernel
theorem dX6_checkWayNotFull_11 : decode cX6_checkWayNotFull 11 = .ok (.bipush 12, 2) := by decide +kernel
theorem dX6_checkWayNotFull_13 : decode cX6_checkWayNotFull 13 = .ok (.if_icmp .lt 13, 3) := by decide +kernel
theorem dX6_checkWayNotFull_16 : decode cX6_checkWayNotFull 16 = .ok (.new 39, 3) := by decide +kernel
theorem dX6_checkWayNotFull_19 : decode cX6_checkWayNotFull 19 = .ok (.dup, 1) := by decide +kernel
theorem dX6_checkWayNotFull_20 : decode cX6_checkWayNotFull 20 = .ok (.ldc 251, 2) := by decide +kernel
theorem dX6_checkWayNotFull_22 : decode cX6_checkWayNotFull 22 = .ok (.invokespecial 43, 3) := by decide +kernel
theorem dX6_checkWayNotFull_25 : decode cX6_checkWayNotFull 25 = .ok (.athrow, 1) := by decide +kernel
theorem dX6_checkWayNotFull_26 : decode cX6_checkWayNotFull 26 = .ok (.return_, 1) := by decide +kernel
theorem dX6_who_0 : decode cX6_who 0 = .ok (.iload_n 1, 1) := by decide +kernel
theorem dX6_who_1 : decode cX6_who 1 = .ok (.ifCond .ne 10, 3) := by decide +kernel
theorem dX6_who_4 : decode cX6_who 4 = .ok (.aload_n 0, 1) := by decide +kernel
theorem dX6_who_5 : decode cX6_who 5 = .ok (.getfield 10, 3) := by decide +kernel
theorem dX6_who_8 : decode cX6_who 8 = .ok (.goto 7, 3) := by decide +kernel
theorem dX6_who_11 : decode cX6_who 11 = .ok (.aload_n 0, 1) := by decide +kernel
theorem dX6_who_12 : decode cX6_who 12 = .ok (.getfield 16, 3) := by decide +kernel
theorem dX6_who_15 : decode cX6_who 15 = .ok (.areturn, 1) := by decide +kernel
theorem dX6_other_0 : decode cX6_other 0 = .ok (.iload_n 1, 1) := by decide +kernel
theorem dX6_other_1 : decode cX6_other 1 = .ok (.ifCond .ne 10, 3) := by decide +kernel
theorem dX6_other_4 : decode cX6_other 4 = .ok (.aload_n 0, 1) := by decide +kernel
theorem dX6_other_5 : decode cX6_other 5 = .ok (.getfield 16, 3) := by decide +kernel
theorem dX6_other_8 : decode cX6_other 8 = .ok (.goto 7, 3) := by decide +kernel
theorem dX6_other_11 : decode cX6_other 11 = .ok (.aload_n 0, 1) := by decide +kernel
theorem dX6_other_12 : decode cX6_other 12 = .ok (.getfield 10, 3) := by decide +kernel
theorem dX6_other_15 : decode cX6_other 15 = .ok (.areturn, 1) := by decide +kernel
theorem dX6_newMark_0 : decode cX6_newMark 0 = .ok (.aload_n 0, 1) := by decide +kernel
theorem dX6_newMark_1 : decode cX6_newMark 1 = .ok (.dup, 1) := by decide +kernel
theorem dX6_newMark_2 : decode cX6_newMark 2 = .ok (.getfield 253, 3) := by decide +kernel
theorem dX6_newMark_5 : decode cX6_newMark 5 = .ok (.iconst 1, 1) := by decide +kernel
theorem dX6_newMark_6 : decode cX6_newMark 6 = .ok (.iadd, 1) := by decide +kernel
theorem dX6_newMark_7 : decode cX6_newMark 7 = .ok (.putfield 253, 3) := by decide +kernel
theorem dX6_newMark_10 : decode cX6_newMark 10 = .ok (.aload_n 0, 1) := by decide +kernel
theorem dX6_newMark_11 : decode cX6_newMark 11 = .ok (.getfield 253, 3) := by decide +kernel
theorem dX6_newMark_14 : decode cX6_newMark 14 = .ok (.ireturn, 1) := by decide +kernel
theorem dX6_strikeAt_0 : decode cX6_strikeAt 0 = .ok (.new 19, 3) := by decide +kernel
theorem dX6_strikeAt_3 : decode cX6_strikeAt 3 = .ok (.dup, 1) := by decide +kernel
theorem dX6_strikeAt_4 : decode cX6_strikeAt 4 = .ok (.iconst 2, 1) := by decide +kernel
theorem dX6_strikeAt_5 : decode cX6_strikeAt 5 = .ok (.iload_n 0, 1) := by decide +kernel
theorem dX6_strikeAt_6 : decode cX6_strikeAt 6 = .ok (.iconst (-1), 1) := by decide +kernel
theorem dX6_strikeAt_7 : decode cX6_strikeAt 7 = .ok (.iconst (-1), 1) := by decide +kernel
theorem dX6_strikeAt_8 : decode cX6_strikeAt 8 = .ok (.iconst (-1), 1) := by decide +kernel
theorem dX6_strikeAt_9 : decode cX6_strikeAt 9 = .ok (.invokespecial 21, 3) := by decide +kernel
theorem dX6_strikeAt_12 : decode cX6_strikeAt 12 = .ok (.areturn, 1) := by decide +kernel
theorem dX6_write_0 : decode cX6_write 0 = .ok (.aload_n 0, 1) := by decide +kernel
theorem dX6_write_1 : decode cX6_write 1 = .ok (.iload_n 1, 1) := by decide +kernel
theorem dX6_write_2 : decode cX6_write 2 = .ok (.invokevirtual 69, 3) := by decide +kernel
theorem dX6_write_5 : decode cX6_write 5 = .ok (.astore_n 3, 1) := by decide +kernel
theorem dX6_write_6 : decode cX6_write 6 = .ok (.aload_n 3, 1) := by decide +kernel
theorem dX6_write_7 : decode cX6_write 7 = .ok (.aload_n 2, 1) := by decide +kernel
theorem dX6_write_8 : decode cX6_write 8 = .ok (.iload_n 1, 1) := by decide +kernel
theorem dX6_write_9 : decode cX6_write 9 = .ok (.invokevirtual 256, 3) := by decide +kernel
theorem dX6_write_12 : decode cX6_write 12 = .ok (.aload_n 3, 1) := by decide +kernel
theorem dX6_write_13 : decode cX6_write 13 = .ok (.dup, 1) := by decide +kernel
theorem dX6_write_14 : decode cX6_write 14 = .ok (.getfield 151, 3) := by decide +kernel
theorem dX6_write_17 : decode cX6_write 17 = .ok (.iconst 1, 1) := by decide +kernel
theorem dX6_write_18 : decode cX6_write 18 = .ok (.iadd, 1) := by decide +kernel
theorem dX6_write_19 : decode cX6_write 19 = .ok (.putfield 151, 3) := by decide +kernel
theorem dX6_write_22 : decode cX6_write 22 = .ok (.aload_n 3, 1) := by decide +kernel
theorem dX6_write_23 : decode cX6_write 23 = .ok (.getfield 85, 3) := by decide +kernel
theorem dX6_write_26 : decode cX6_write 26 = .ok (.invokevirtual 89, 3) := by decide +kernel
theorem dX6_write_29 : decode cX6_write 29 = .ok (.istore 4, 2) := by decide +kernel
theorem dX6_write_31 : decode cX6_write 31 = .ok (.iconst 0, 1) := by decide +kernel
theorem dX6_write_32 : decode cX6_write 32 = .ok (.istore 5, 2) := by decide +kernel
theorem dX6_write_34 : decode cX6_write 34 = .ok (.iload 5, 2) := by decide +kernel
theorem dX6_write_36 : decode cX6_write 36 = .ok (.iload 4, 2) := by decide +kernel
theorem dX6_write_38 : decode cX6_write 38 = .ok (.if_icmp .ge 41, 3) := by decide +kernel
theorem dX6_write_41 : decode cX6_write 41 = .ok (.aload_n 3, 1) := by decide +kernel
theorem dX6_write_42 : decode cX6_write 42 = .ok (.getfield 85, 3) := by decide +kernel
theorem dX6_write_45 : decode cX6_write 45 = .ok (.iload 5, 2) := by decide +kernel
theorem dX6_write_47 : decode cX6_write 47 = .ok (.aload_n 0, 1) := by decide +kernel
theorem dX6_write_48 : decode cX6_write 48 = .ok (.getfield 24, 3) := by decide +kernel
theorem dX6_write_51 : decode cX6_write 51 = .ok (.invokevirtual 206, 3) := by decide +kernel
theorem dX6_write_54 : decode cX6_write 54 = .ok (.aload_n 0, 1) := by decide +kernel
theorem dX6_write_55 : decode cX6_write 55 = .ok (.iload_n 1, 1) := by decide +kernel
theorem dX6_write_56 : decode cX6_write 56 = .ok (.aload_n 2, 1) := by decide +kernel
theorem dX6_write_57 : decode cX6_write 57 = .ok (.invokevirtual 260, 3) := by decide +kernel
theorem dX6_write_60 : decode cX6_write 60 = .ok (.aload_n 3, 1) := by decide +kernel
theorem dX6_write_61 : decode cX6_write 61 = .ok (.getfield 85, 3) := by decide +kernel
theorem dX6_write_64 : decode cX6_write 64 = .ok (.iload 5, 2) := by decide +kernel
theorem dX6_write_66 : decode cX6_write 66 = .ok (.aload_n 0, 1) := by decide +kernel
theorem dX6_write_67 : decode cX6_write 67 = .ok (.getfield 24, 3) := by decide +kernel
theorem dX6_write_70 : decode cX6_write 70 = .ok (.invokevirtual 263, 3) := by decide +kernel
theorem dX6_write_73 : decode cX6_write 73 = .ok (.iinc 5 1, 3) := by decide +kernel
theorem dX6_write_76 : decode cX6_write 76 = .ok (.goto (-42), 3) := by decide +kernel
theorem dX6_write_79 : decode cX6_write 79 = .ok (.aload_n 0, 1) := by decide +kernel
theorem dX6_write_80 : decode cX6_write 80 = .ok (.iload_n 1, 1) := by decide +kernel
theorem dX6_write_81 : decode cX6_write 81 = .ok (.invokevirtual 82, 3) := by decide +kernel
theorem dX6_write_84 : decode cX6_write 84 = .ok (.getfield 85, 3) := by decide +kernel
theorem dX6_write_87 : decode cX6_write 87 = .ok (.aload_n 2, 1) := by decide +kernel
theorem dX6_write_88 : decode cX6_write 88 = .ok (.invokevirtual 266, 3) := by decide +kernel
theorem dX6_write_91 : decode cX6_write 91 = .ok (.return_, 1) := by decide +kernel
theorem dX6_meetOne_0 : decode cX6_meetOne 0 = .ok (.aload_n 2, 1) := by decide +kernel
theorem dX6_meetOne_1 : decode cX6_meetOne 1 = .ok (.getfield 209, 3) := by decide +kernel
theorem dX6_meetOne_4 : decode cX6_meetOne 4 = .ok (.iconst 1, 1) := by decide +kernel
theorem dX6_meetOne_5 : decode cX6_meetOne 5 = .ok (.if_icmp .ne 38, 3) := by decide +kernel
theorem dX6_meetOne_8 : decode cX6_meetOne 8 = .ok (.aload_n 0, 1) := by decide +kernel
theorem dX6_meetOne_9 : decode cX6_meetOne 9 = .ok (.getfield 24, 3) := by decide +kernel
theorem dX6_meetOne_12 : decode cX6_meetOne 12 = .ok (.getfield 209, 3) := by decide +kernel
theorem dX6_meetOne_15 : decode cX6_meetOne 15 = .ok (.iconst 1, 1) := by decide +kernel
theorem dX6_meetOne_16 : decode cX6_meetOne 16 = .ok (.if_icmp .ne 27, 3) := by decide +kernel
theorem dX6_meetOne_19 : decode cX6_meetOne 19 = .ok (.aload_n 2, 1) := by decide +kernel
theorem dX6_meetOne_20 : decode cX6_meetOne 20 = .ok (.getfield 212, 3) := by decide +kernel
theorem dX6_meetOne_23 : decode cX6_meetOne 23 = .ok (.aload_n 0, 1) := by decide +kernel
theorem dX6_meetOne_24 : decode cX6_meetOne 24 = .ok (.getfield 24, 3) := by decide +kernel
theorem dX6_meetOne_27 : decode cX6_meetOne 27 = .ok (.getfield 212, 3) := by decide +kernel
theorem dX6_meetOne_30 : decode cX6_meetOne 30 = .ok (.if_icmp .ne 13, 3) := by decide +kernel
theorem dX6_meetOne_33 : decode cX6_meetOne 33 = .ok (.aload_n 0, 1) := by decide +kernel
theorem dX6_meetOne_34 : decode cX6_meetOne 34 = .ok (.dup, 1) := by decide +kernel
theorem dX6_meetOne_35 : decode cX6_meetOne 35 = .ok (.getfield 185, 3) := by decide +kernel
theorem dX6_meetOne_38 : decode cX6_meetOne 38 = .ok (.iconst 1, 1) := by decide +kernel
theorem dX6_meetOne_39 : decode cX6_meetOne 39 = .ok (.iadd, 1) := by decide +kernel
theorem dX6_meetOne_40 : decode cX6_meetOne 40 = .ok (.putfield 185, 3) := by decide +kernel
theorem dX6_meetOne_43 : decode cX6_meetOne 43 = .ok (.aload_n 0, 1) := by decide +kernel
theorem dX6_meetOne_44 : decode cX6_meetOne 44 = .ok (.iload_n 1, 1) := by decide +kernel
theorem dX6_meetOne_45 : decode cX6_meetOne 45 = .ok (.aload_n 2, 1) := by decide +kernel
theorem dX6_meetOne_46 : decode cX6_meetOne 46 = .ok (.aload_n 0, 1) := by decide +kernel
theorem dX6_meetOne_47 : decode cX6_meetOne 47 = .ok (.getfield 24, 3) := by decide +kernel
theorem dX6_meetOne_50 : decode cX6_meetOne 50 = .ok (.invokevirtual 215, 3) := by decide +kernel
theorem dX6_meetOne_53 : decode cX6_meetOne 53 = .ok (.istore_n 3, 1) := by decide +kernel
theorem dX6_meetOne_54 : decode cX6_meetOne 54 = .ok (.aload_n 2, 1) := by decide +kernel
theorem dX6_meetOne_55 : decode cX6_meetOne 55 = .ok (.getfield 209, 3) := by decide +kernel
theorem dX6_meetOne_58 : decode cX6_meetOne 58 = .ok (.istore 4, 2) := by decide +kernel
theorem dX6_meetOne_60 : decode cX6_meetOne 60 = .ok (.aload_n 2, 1) := by decide +kernel
theorem dX6_meetOne_61 : decode cX6_meetOne 61 = .ok (.getfield 212, 3) := by decide +kernel
theorem dX6_meetOne_64 : decode cX6_meetOne 64 = .ok (.istore 5, 2) := by decide +kernel
theorem dX6_meetOne_66 : decode cX6_meetOne 66 = .ok (.aload_n 2, 1) := by decide +kernel
theorem dX6_meetOne_67 : decode cX6_meetOne 67 = .ok (.aload_n 0, 1) := by decide +kernel
theorem dX6_meetOne_68 : decode cX6_meetOne 68 = .ok (.getfield 24, 3) := by decide +kernel
theorem dX6_meetOne_71 : decode cX6_meetOne 71 = .ok (.getfield 209, 3) := by decide +kernel
theorem dX6_meetOne_74 : decode cX6_meetOne 74 = .ok (.aload_n 0, 1) := by decide +kernel
theorem dX6_meetOne_75 : decode cX6_meetOne 75 = .ok (.getfield 24, 3) := by decide +kernel
theorem dX6_meetOne_78 : decode cX6_meetOne 78 = .ok (.getfield 212, 3) := by decide +kernel
theorem dX6_meetOne_81 : decode cX6_meetOne 81 = .ok (.iload_n 3, 1) := by decide +kernel
theorem dX6_meetOne_82 : decode cX6_meetOne 82 = .ok (.invokevirtual 219, 3) := by decide +kernel
theorem dX6_meetOne_85 : decode cX6_meetOne 85 = .ok (.aload_n 0, 1) := by decide +kernel
theorem dX6_meetOne_86 : decode cX6_meetOne 86 = .ok (.getfield 24, 3) := by decide +kernel
theorem dX6_meetOne_89 : decode cX6_meetOne 89 = .ok (.iload 4, 2) := by decide +kernel
theorem dX6_meetOne_91 : decode cX6_meetOne 91 = .ok (.iload 5, 2) := by decide +kernel
theorem dX6_meetOne_93 : decode cX6_meetOne 93 = .ok (.iload_n 3, 1) := by decide +kernel
theorem dX6_meetOne_94 : decode cX6_meetOne 94 = .ok (.ifCond .ne 7, 3) := by decide +kernel
theorem dX6_meetOne_97 : decode cX6_meetOne 97 = .ok (.iconst 1, 1) := by decide +kernel
theorem dX6_meetOne_98 : decode cX6_meetOne 98 = .ok (.goto 4, 3) := by decide +kernel
theorem dX6_meetOne_101 : decode cX6_meetOne 101 = .ok (.iconst 0, 1) := by decide +kernel
theorem dX6_meetOne_102 : decode cX6_meetOne 102 = .ok (.invokevirtual 219, 3) := by decide +kernel
theorem dX6_meetOne_105 : decode cX6_meetOne 105 = .ok (.return_, 1) := by decide +kernel
