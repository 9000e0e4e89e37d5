theorem dX7_come_0 : decode cX7_come 0 = .ok (.aload_n 0, 1) := by decide +kernel
theorem dX7_come_1 : decode cX7_come 1 = .ok (.getfield 22, 3) := by decide +kernel
theorem dX7_come_4 : decode cX7_come 4 = .ok (.iload_n 1, 1) := by decide +kernel
theorem dX7_come_5 : decode cX7_come 5 = .ok (.aaload, 1) := by decide +kernel
theorem dX7_come_6 : decode cX7_come 6 = .ok (.iconst 0, 1) := by decide +kernel
theorem dX7_come_7 : decode cX7_come 7 = .ok (.aaload, 1) := by decide +kernel
theorem dX7_come_8 : decode cX7_come 8 = .ok (.astore_n 2, 1) := by decide +kernel
theorem dX7_come_9 : decode cX7_come 9 = .ok (.aload_n 0, 1) := by decide +kernel
theorem dX7_come_10 : decode cX7_come 10 = .ok (.getfield 22, 3) := by decide +kernel
theorem dX7_come_13 : decode cX7_come 13 = .ok (.iload_n 1, 1) := by decide +kernel
theorem dX7_come_14 : decode cX7_come 14 = .ok (.aaload, 1) := by decide +kernel
theorem dX7_come_15 : decode cX7_come 15 = .ok (.arraylength, 1) := by decide +kernel
theorem dX7_come_16 : decode cX7_come 16 = .ok (.iconst 1, 1) := by decide +kernel
theorem dX7_come_17 : decode cX7_come 17 = .ok (.isub, 1) := by decide +kernel
theorem dX7_come_18 : decode cX7_come 18 = .ok (.anewarray 16, 3) := by decide +kernel
theorem dX7_come_21 : decode cX7_come 21 = .ok (.astore_n 3, 1) := by decide +kernel
theorem dX7_come_22 : decode cX7_come 22 = .ok (.iconst 0, 1) := by decide +kernel
theorem dX7_come_23 : decode cX7_come 23 = .ok (.istore 4, 2) := by decide +kernel
theorem dX7_come_25 : decode cX7_come 25 = .ok (.iload 4, 2) := by decide +kernel
theorem dX7_come_27 : decode cX7_come 27 = .ok (.aload_n 3, 1) := by decide +kernel
theorem dX7_come_28 : decode cX7_come 28 = .ok (.arraylength, 1) := by decide +kernel
theorem dX7_come_29 : decode cX7_come 29 = .ok (.if_icmp .ge 24, 3) := by decide +kernel
theorem dX7_come_32 : decode cX7_come 32 = .ok (.aload_n 3, 1) := by decide +kernel
theorem dX7_come_33 : decode cX7_come 33 = .ok (.iload 4, 2) := by decide +kernel
theorem dX7_come_35 : decode cX7_come 35 = .ok (.aload_n 0, 1) := by decide +kernel
theorem dX7_come_36 : decode cX7_come 36 = .ok (.getfield 22, 3) := by decide +kernel
theorem dX7_come_39 : decode cX7_come 39 = .ok (.iload_n 1, 1) := by decide +kernel
theorem dX7_come_40 : decode cX7_come 40 = .ok (.aaload, 1) := by decide +kernel
theorem dX7_come_41 : decode cX7_come 41 = .ok (.iload 4, 2) := by decide +kernel
theorem dX7_come_43 : decode cX7_come 43 = .ok (.iconst 1, 1) := by decide +kernel
theorem dX7_come_44 : decode cX7_come 44 = .ok (.iadd, 1) := by decide +kernel
theorem dX7_come_45 : decode cX7_come 45 = .ok (.aaload, 1) := by decide +kernel
theorem dX7_come_46 : decode cX7_come 46 = .ok (.aastore, 1) := by decide +kernel
theorem dX7_come_47 : decode cX7_come 47 = .ok (.iinc 4 1, 3) := by decide +kernel
theorem dX7_come_50 : decode cX7_come 50 = .ok (.goto (-25), 3) := by decide +kernel
theorem dX7_come_53 : decode cX7_come 53 = .ok (.aload_n 0, 1) := by decide +kernel
theorem dX7_come_54 : decode cX7_come 54 = .ok (.getfield 22, 3) := by decide +kernel
theorem dX7_come_57 : decode cX7_come 57 = .ok (.iload_n 1, 1) := by decide +kernel
theorem dX7_come_58 : decode cX7_come 58 = .ok (.aload_n 3, 1) := by decide +kernel
theorem dX7_come_59 : decode cX7_come 59 = .ok (.aastore, 1) := by decide +kernel
theorem dX7_come_60 : decode cX7_come 60 = .ok (.aload_n 0, 1) := by decide +kernel
theorem dX7_come_61 : decode cX7_come 61 = .ok (.iload_n 1, 1) := by decide +kernel
theorem dX7_come_62 : decode cX7_come 62 = .ok (.aload_n 2, 1) := by decide +kernel
theorem dX7_come_63 : decode cX7_come 63 = .ok (.invokevirtual 64, 3) := by decide +kernel
theorem dX7_come_66 : decode cX7_come 66 = .ok (.aload_n 0, 1) := by decide +kernel
theorem dX7_come_67 : decode cX7_come 67 = .ok (.getfield 32, 3) := by decide +kernel
theorem dX7_come_70 : decode cX7_come 70 = .ok (.iload_n 1, 1) := by decide +kernel
theorem dX7_come_71 : decode cX7_come 71 = .ok (.dup2, 1) := by decide +kernel
theorem dX7_come_72 : decode cX7_come 72 = .ok (.iaload, 1) := by decide +kernel
theorem dX7_come_73 : decode cX7_come 73 = .ok (.iconst 1, 1) := by decide +kernel
theorem dX7_come_74 : decode cX7_come 74 = .ok (.iadd, 1) := by decide +kernel
theorem dX7_come_75 : decode cX7_come 75 = .ok (.iastore, 1) := by decide +kernel
theorem dX7_come_76 : decode cX7_come 76 = .ok (.aload_n 2, 1) := by decide +kernel
theorem dX7_come_77 : decode cX7_come 77 = .ok (.iconst 0, 1) := by decide +kernel
theorem dX7_come_78 : decode cX7_come 78 = .ok (.iaload, 1) := by decide +kernel
theorem dX7_come_79 : decode cX7_come 79 = .ok (.ifCond .ne 13, 3) := by decide +kernel
theorem dX7_come_82 : decode cX7_come 82 = .ok (.aload_n 0, 1) := by decide +kernel
theorem dX7_come_83 : decode cX7_come 83 = .ok (.getfield 35, 3) := by decide +kernel
theorem dX7_come_86 : decode cX7_come 86 = .ok (.iload_n 1, 1) := by decide +kernel
theorem dX7_come_87 : decode cX7_come 87 = .ok (.dup2, 1) := by decide +kernel
theorem dX7_come_88 : decode cX7_come 88 = .ok (.iaload, 1) := by decide +kernel
theorem dX7_come_89 : decode cX7_come 89 = .ok (.iconst 1, 1) := by decide +kernel
theorem dX7_come_90 : decode cX7_come 90 = .ok (.iadd, 1) := by decide +kernel
theorem dX7_come_91 : decode cX7_come 91 = .ok (.iastore, 1) := by decide +kernel
theorem dX7_come_92 : decode cX7_come 92 = .ok (.aload_n 2, 1) := by decide +kernel
theorem dX7_come_93 : decode cX7_come 93 = .ok (.iconst 0, 1) := by decide +kernel
theorem dX7_come_94 : decode cX7_come 94 = .ok (.iaload, 1) := by decide +kernel
theorem dX7_come_95 : decode cX7_come 95 = .ok (.ireturn, 1) := by decide +kernel
theorem dX7_meet_0 : decode cX7_meet 0 = .ok (.iconst 0, 1) := by decide +kernel
theorem dX7_meet_1 : decode cX7_meet 1 = .ok (.istore_n 1, 1) := by decide +kernel
theorem dX7_meet_2 : decode cX7_meet 2 = .ok (.iconst 1, 1) := by decide +kernel
theorem dX7_meet_3 : decode cX7_meet 3 = .ok (.istore_n 2, 1) := by decide +kernel
theorem dX7_meet_4 : decode cX7_meet 4 = .ok (.iload_n 2, 1) := by decide +kernel
theorem dX7_meet_5 : decode cX7_meet 5 = .ok (.ifCond .lt 31, 3) := by decide +kernel
theorem dX7_meet_8 : decode cX7_meet 8 = .ok (.aload_n 0, 1) := by decide +kernel
theorem dX7_meet_9 : decode cX7_meet 9 = .ok (.getfield 22, 3) := by decide +kernel
theorem dX7_meet_12 : decode cX7_meet 12 = .ok (.iload_n 2, 1) := by decide +kernel
theorem dX7_meet_13 : decode cX7_meet 13 = .ok (.aaload, 1) := by decide +kernel
theorem dX7_meet_14 : decode cX7_meet 14 = .ok (.arraylength, 1) := by decide +kernel
theorem dX7_meet_15 : decode cX7_meet 15 = .ok (.ifCond .le 15, 3) := by decide +kernel
theorem dX7_meet_18 : decode cX7_meet 18 = .ok (.aload_n 0, 1) := by decide +kernel
theorem dX7_meet_19 : decode cX7_meet 19 = .ok (.iload_n 2, 1) := by decide +kernel
theorem dX7_meet_20 : decode cX7_meet 20 = .ok (.invokevirtual 90, 3) := by decide +kernel
theorem dX7_meet_23 : decode cX7_meet 23 = .ok (.pop, 1) := by decide +kernel
theorem dX7_meet_24 : decode cX7_meet 24 = .ok (.iinc 1 1, 3) := by decide +kernel
theorem dX7_meet_27 : decode cX7_meet 27 = .ok (.goto (-19), 3) := by decide +kernel
theorem dX7_meet_30 : decode cX7_meet 30 = .ok (.iinc 2 (-1), 3) := by decide +kernel
theorem dX7_meet_33 : decode cX7_meet 33 = .ok (.goto (-29), 3) := by decide +kernel
theorem dX7_meet_36 : decode cX7_meet 36 = .ok (.iload_n 1, 1) := by decide +kernel
theorem dX7_meet_37 : decode cX7_meet 37 = .ok (.ireturn, 1) := by decide +kernel
