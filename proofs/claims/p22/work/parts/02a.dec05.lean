theorem dX6_placeOfUndoing_0 : decode cX6_placeOfUndoing 0 = .ok (.aload_n 0, 1) := by decide +kernel
theorem dX6_placeOfUndoing_1 : decode cX6_placeOfUndoing 1 = .ok (.iload_n 1, 1) := by decide +kernel
theorem dX6_placeOfUndoing_2 : decode cX6_placeOfUndoing 2 = .ok (.invokevirtual 69, 3) := by decide +kernel
theorem dX6_placeOfUndoing_5 : decode cX6_placeOfUndoing 5 = .ok (.astore_n 2, 1) := by decide +kernel
theorem dX6_placeOfUndoing_6 : decode cX6_placeOfUndoing 6 = .ok (.aload_n 2, 1) := by decide +kernel
theorem dX6_placeOfUndoing_7 : decode cX6_placeOfUndoing 7 = .ok (.getfield 73, 3) := by decide +kernel
theorem dX6_placeOfUndoing_10 : decode cX6_placeOfUndoing 10 = .ok (.invokevirtual 123, 3) := by decide +kernel
theorem dX6_placeOfUndoing_13 : decode cX6_placeOfUndoing 13 = .ok (.ifCond .ne 5, 3) := by decide +kernel
theorem dX6_placeOfUndoing_16 : decode cX6_placeOfUndoing 16 = .ok (.iconst (-1), 1) := by decide +kernel
theorem dX6_placeOfUndoing_17 : decode cX6_placeOfUndoing 17 = .ok (.ireturn, 1) := by decide +kernel
theorem dX6_placeOfUndoing_18 : decode cX6_placeOfUndoing 18 = .ok (.aload_n 2, 1) := by decide +kernel
theorem dX6_placeOfUndoing_19 : decode cX6_placeOfUndoing 19 = .ok (.getfield 73, 3) := by decide +kernel
theorem dX6_placeOfUndoing_22 : decode cX6_placeOfUndoing 22 = .ok (.invokevirtual 132, 3) := by decide +kernel
theorem dX6_placeOfUndoing_25 : decode cX6_placeOfUndoing 25 = .ok (.ifCond .eq 11, 3) := by decide +kernel
theorem dX6_placeOfUndoing_28 : decode cX6_placeOfUndoing 28 = .ok (.aload_n 2, 1) := by decide +kernel
theorem dX6_placeOfUndoing_29 : decode cX6_placeOfUndoing 29 = .ok (.getfield 73, 3) := by decide +kernel
theorem dX6_placeOfUndoing_32 : decode cX6_placeOfUndoing 32 = .ok (.invokevirtual 279, 3) := by decide +kernel
theorem dX6_placeOfUndoing_35 : decode cX6_placeOfUndoing 35 = .ok (.ireturn, 1) := by decide +kernel
theorem dX6_placeOfUndoing_36 : decode cX6_placeOfUndoing 36 = .ok (.aload_n 2, 1) := by decide +kernel
theorem dX6_placeOfUndoing_37 : decode cX6_placeOfUndoing 37 = .ok (.getfield 97, 3) := by decide +kernel
theorem dX6_placeOfUndoing_40 : decode cX6_placeOfUndoing 40 = .ok (.aload_n 2, 1) := by decide +kernel
theorem dX6_placeOfUndoing_41 : decode cX6_placeOfUndoing 41 = .ok (.getfield 73, 3) := by decide +kernel
theorem dX6_placeOfUndoing_44 : decode cX6_placeOfUndoing 44 = .ok (.invokevirtual 282, 3) := by decide +kernel
theorem dX6_placeOfUndoing_47 : decode cX6_placeOfUndoing 47 = .ok (.invokevirtual 285, 3) := by decide +kernel
theorem dX6_placeOfUndoing_50 : decode cX6_placeOfUndoing 50 = .ok (.ireturn, 1) := by decide +kernel
theorem dX6_strokesOnWay_0 : decode cX6_strokesOnWay 0 = .ok (.aload_n 0, 1) := by decide +kernel
theorem dX6_strokesOnWay_1 : decode cX6_strokesOnWay 1 = .ok (.getfield 10, 3) := by decide +kernel
theorem dX6_strokesOnWay_4 : decode cX6_strokesOnWay 4 = .ok (.getfield 85, 3) := by decide +kernel
theorem dX6_strokesOnWay_7 : decode cX6_strokesOnWay 7 = .ok (.invokevirtual 89, 3) := by decide +kernel
theorem dX6_strokesOnWay_10 : decode cX6_strokesOnWay 10 = .ok (.aload_n 0, 1) := by decide +kernel
theorem dX6_strokesOnWay_11 : decode cX6_strokesOnWay 11 = .ok (.getfield 16, 3) := by decide +kernel
theorem dX6_strokesOnWay_14 : decode cX6_strokesOnWay 14 = .ok (.getfield 85, 3) := by decide +kernel
theorem dX6_strokesOnWay_17 : decode cX6_strokesOnWay 17 = .ok (.invokevirtual 89, 3) := by decide +kernel
theorem dX6_strokesOnWay_20 : decode cX6_strokesOnWay 20 = .ok (.iadd, 1) := by decide +kernel
theorem dX6_strokesOnWay_21 : decode cX6_strokesOnWay 21 = .ok (.ireturn, 1) := by decide +kernel
theorem dX6_longerCopy_0 : decode cX6_longerCopy 0 = .ok (.aload_n 0, 1) := by decide +kernel
theorem dX6_longerCopy_1 : decode cX6_longerCopy 1 = .ok (.getfield 10, 3) := by decide +kernel
theorem dX6_longerCopy_4 : decode cX6_longerCopy 4 = .ok (.getfield 97, 3) := by decide +kernel
theorem dX6_longerCopy_7 : decode cX6_longerCopy 7 = .ok (.invokevirtual 150, 3) := by decide +kernel
theorem dX6_longerCopy_10 : decode cX6_longerCopy 10 = .ok (.aload_n 0, 1) := by decide +kernel
theorem dX6_longerCopy_11 : decode cX6_longerCopy 11 = .ok (.getfield 16, 3) := by decide +kernel
theorem dX6_longerCopy_14 : decode cX6_longerCopy 14 = .ok (.getfield 97, 3) := by decide +kernel
theorem dX6_longerCopy_17 : decode cX6_longerCopy 17 = .ok (.invokevirtual 150, 3) := by decide +kernel
theorem dX6_longerCopy_20 : decode cX6_longerCopy 20 = .ok (.invokestatic 288, 3) := by decide +kernel
theorem dX6_longerCopy_23 : decode cX6_longerCopy 23 = .ok (.ireturn, 1) := by decide +kernel
theorem dX6_differAt_0 : decode cX6_differAt 0 = .ok (.aload_n 0, 1) := by decide +kernel
theorem dX6_differAt_1 : decode cX6_differAt 1 = .ok (.getfield 10, 3) := by decide +kernel
theorem dX6_differAt_4 : decode cX6_differAt 4 = .ok (.getfield 97, 3) := by decide +kernel
theorem dX6_differAt_7 : decode cX6_differAt 7 = .ok (.getfield 101, 3) := by decide +kernel
theorem dX6_differAt_10 : decode cX6_differAt 10 = .ok (.iload_n 1, 1) := by decide +kernel
theorem dX6_differAt_11 : decode cX6_differAt 11 = .ok (.invokevirtual 107, 3) := by decide +kernel
theorem dX6_differAt_14 : decode cX6_differAt 14 = .ok (.aload_n 0, 1) := by decide +kernel
theorem dX6_differAt_15 : decode cX6_differAt 15 = .ok (.getfield 16, 3) := by decide +kernel
theorem dX6_differAt_18 : decode cX6_differAt 18 = .ok (.getfield 97, 3) := by decide +kernel
theorem dX6_differAt_21 : decode cX6_differAt 21 = .ok (.getfield 101, 3) := by decide +kernel
theorem dX6_differAt_24 : decode cX6_differAt 24 = .ok (.iload_n 1, 1) := by decide +kernel
theorem dX6_differAt_25 : decode cX6_differAt 25 = .ok (.invokevirtual 107, 3) := by decide +kernel
theorem dX6_differAt_28 : decode cX6_differAt 28 = .ok (.if_icmp .eq 7, 3) := by decide +kernel
theorem dX6_differAt_31 : decode cX6_differAt 31 = .ok (.iconst 1, 1) := by decide +kernel
theorem dX6_differAt_32 : decode cX6_differAt 32 = .ok (.goto 4, 3) := by decide +kernel
theorem dX6_differAt_35 : decode cX6_differAt 35 = .ok (.iconst 0, 1) := by decide +kernel
theorem dX6_differAt_36 : decode cX6_differAt 36 = .ok (.ireturn, 1) := by decide +kernel
theorem dX6_differences_0 : decode cX6_differences 0 = .ok (.aload_n 0, 1) := by decide +kernel
theorem dX6_differences_1 : decode cX6_differences 1 = .ok (.invokevirtual 190, 3) := by decide +kernel
theorem dX6_differences_4 : decode cX6_differences 4 = .ok (.istore_n 1, 1) := by decide +kernel
theorem dX6_differences_5 : decode cX6_differences 5 = .ok (.iconst 0, 1) := by decide +kernel
theorem dX6_differences_6 : decode cX6_differences 6 = .ok (.istore_n 2, 1) := by decide +kernel
theorem dX6_differences_7 : decode cX6_differences 7 = .ok (.iconst 0, 1) := by decide +kernel
theorem dX6_differences_8 : decode cX6_differences 8 = .ok (.istore_n 3, 1) := by decide +kernel
theorem dX6_differences_9 : decode cX6_differences 9 = .ok (.iload_n 3, 1) := by decide +kernel
theorem dX6_differences_10 : decode cX6_differences 10 = .ok (.iload_n 1, 1) := by decide +kernel
theorem dX6_differences_11 : decode cX6_differences 11 = .ok (.if_icmp .ge 20, 3) := by decide +kernel
theorem dX6_differences_14 : decode cX6_differences 14 = .ok (.aload_n 0, 1) := by decide +kernel
theorem dX6_differences_15 : decode cX6_differences 15 = .ok (.iload_n 3, 1) := by decide +kernel
theorem dX6_differences_16 : decode cX6_differences 16 = .ok (.invokevirtual 193, 3) := by decide +kernel
theorem dX6_differences_19 : decode cX6_differences 19 = .ok (.ifCond .eq 6, 3) := by decide +kernel
theorem dX6_differences_22 : decode cX6_differences 22 = .ok (.iinc 2 1, 3) := by decide +kernel
theorem dX6_differences_25 : decode cX6_differences 25 = .ok (.iinc 3 1, 3) := by decide +kernel
theorem dX6_differences_28 : decode cX6_differences 28 = .ok (.goto (-19), 3) := by decide +kernel
theorem dX6_differences_31 : decode cX6_differences 31 = .ok (.iload_n 2, 1) := by decide +kernel
theorem dX6_differences_32 : decode cX6_differences 32 = .ok (.ireturn, 1) := by decide +kernel
theorem dX6_lettersOfPage_0 : decode cX6_lettersOfPage 0 = .ok (.aload_n 0, 1) := by decide +kernel
theorem dX6_lettersOfPage_1 : decode cX6_lettersOfPage 1 = .ok (.getfield 10, 3) := by decide +kernel
theorem dX6_lettersOfPage_4 : decode cX6_lettersOfPage 4 = .ok (.getfield 97, 3) := by decide +kernel
theorem dX6_lettersOfPage_7 : decode cX6_lettersOfPage 7 = .ok (.invokevirtual 150, 3) := by decide +kernel
theorem dX6_lettersOfPage_10 : decode cX6_lettersOfPage 10 = .ok (.aload_n 0, 1) := by decide +kernel
theorem dX6_lettersOfPage_11 : decode cX6_lettersOfPage 11 = .ok (.getfield 10, 3) := by decide +kernel
theorem dX6_lettersOfPage_14 : decode cX6_lettersOfPage 14 = .ok (.getfield 85, 3) := by decide +kernel
theorem dX6_lettersOfPage_17 : decode cX6_lettersOfPage 17 = .ok (.invokevirtual 293, 3) := by decide +kernel
theorem dX6_lettersOfPage_20 : decode cX6_lettersOfPage 20 = .ok (.iadd, 1) := by decide +kernel
theorem dX6_lettersOfPage_21 : decode cX6_lettersOfPage 21 = .ok (.ireturn, 1) := by decide +kernel
theorem dX6_letterOfPage_0 : decode cX6_letterOfPage 0 = .ok (.aload_n 0, 1) := by decide +kernel
theorem dX6_letterOfPage_1 : decode cX6_letterOfPage 1 = .ok (.getfield 10, 3) := by decide +kernel
theorem dX6_letterOfPage_4 : decode cX6_letterOfPage 4 = .ok (.getfield 85, 3) := by decide +kernel
theorem dX6_letterOfPage_7 : decode cX6_letterOfPage 7 = .ok (.astore_n 2, 1) := by decide +kernel
theorem dX6_letterOfPage_8 : decode cX6_letterOfPage 8 = .ok (.iload_n 1, 1) := by decide +kernel
theorem dX6_letterOfPage_9 : decode cX6_letterOfPage 9 = .ok (.istore_n 3, 1) := by decide +kernel
theorem dX6_letterOfPage_10 : decode cX6_letterOfPage 10 = .ok (.aload_n 2, 1) := by decide +kernel
theorem dX6_letterOfPage_11 : decode cX6_letterOfPage 11 = .ok (.invokevirtual 89, 3) := by decide +kernel
theorem dX6_letterOfPage_14 : decode cX6_letterOfPage 14 = .ok (.iconst 1, 1) := by decide +kernel
theorem dX6_letterOfPage_15 : decode cX6_letterOfPage 15 = .ok (.isub, 1) := by decide +kernel
theorem dX6_letterOfPage_16 : decode cX6_letterOfPage 16 = .ok (.istore 4, 2) := by decide +kernel
theorem dX6_letterOfPage_18 : decode cX6_letterOfPage 18 = .ok (.iload 4, 2) := by decide +kernel
theorem dX6_letterOfPage_20 : decode cX6_letterOfPage 20 = .ok (.ifCond .lt 86, 3) := by decide +kernel
theorem dX6_letterOfPage_23 : decode cX6_letterOfPage 23 = .ok (.aload_n 2, 1) := by decide +kernel
theorem dX6_letterOfPage_24 : decode cX6_letterOfPage 24 = .ok (.getfield 167, 3) := by decide +kernel
theorem dX6_letterOfPage_27 : decode cX6_letterOfPage 27 = .ok (.iload 4, 2) := by decide +kernel
theorem dX6_letterOfPage_29 : decode cX6_letterOfPage 29 = .ok (.invokevirtual 107, 3) := by decide +kernel
theorem dX6_letterOfPage_32 : decode cX6_letterOfPage 32 = .ok (.istore 5, 2) := by decide +kernel
theorem dX6_letterOfPage_34 : decode cX6_letterOfPage 34 = .ok (.aload_n 2, 1) := by decide +kernel
theorem dX6_letterOfPage_35 : decode cX6_letterOfPage 35 = .ok (.getfield 170, 3) := by decide +kernel
theorem dX6_letterOfPage_38 : decode cX6_letterOfPage 38 = .ok (.iload 4, 2) := by decide +kernel
theorem dX6_letterOfPage_40 : decode cX6_letterOfPage 40 = .ok (.invokevirtual 107, 3) := by decide +kernel
theorem dX6_letterOfPage_43 : decode cX6_letterOfPage 43 = .ok (.istore 6, 2) := by decide +kernel
theorem dX6_letterOfPage_45 : decode cX6_letterOfPage 45 = .ok (.iload 5, 2) := by decide +kernel
theorem dX6_letterOfPage_47 : decode cX6_letterOfPage 47 = .ok (.iconst 1, 1) := by decide +kernel
theorem dX6_letterOfPage_48 : decode cX6_letterOfPage 48 = .ok (.if_icmp .ne 19, 3) := by decide +kernel
theorem dX6_letterOfPage_51 : decode cX6_letterOfPage 51 = .ok (.iload 6, 2) := by decide +kernel
theorem dX6_letterOfPage_53 : decode cX6_letterOfPage 53 = .ok (.iload_n 3, 1) := by decide +kernel
theorem dX6_letterOfPage_54 : decode cX6_letterOfPage 54 = .ok (.if_icmp .ne 13, 3) := by decide +kernel
theorem dX6_letterOfPage_57 : decode cX6_letterOfPage 57 = .ok (.aload_n 2, 1) := by decide +kernel
theorem dX6_letterOfPage_58 : decode cX6_letterOfPage 58 = .ok (.getfield 173, 3) := by decide +kernel
theorem dX6_letterOfPage_61 : decode cX6_letterOfPage 61 = .ok (.iload 4, 2) := by decide +kernel
theorem dX6_letterOfPage_63 : decode cX6_letterOfPage 63 = .ok (.invokevirtual 107, 3) := by decide +kernel
theorem dX6_letterOfPage_66 : decode cX6_letterOfPage 66 = .ok (.ireturn, 1) := by decide +kernel
theorem dX6_letterOfPage_67 : decode cX6_letterOfPage 67 = .ok (.iload 5, 2) := by decide +kernel
theorem dX6_letterOfPage_69 : decode cX6_letterOfPage 69 = .ok (.iconst 1, 1) := by decide +kernel
theorem dX6_letterOfPage_70 : decode cX6_letterOfPage 70 = .ok (.if_icmp .ne 15, 3) := by decide +kernel
theorem dX6_letterOfPage_73 : decode cX6_letterOfPage 73 = .ok (.iload 6, 2) := by decide +kernel
theorem dX6_letterOfPage_75 : decode cX6_letterOfPage 75 = .ok (.iload_n 3, 1) := by decide +kernel
theorem dX6_letterOfPage_76 : decode cX6_letterOfPage 76 = .ok (.if_icmp .ge 9, 3) := by decide +kernel
theorem dX6_letterOfPage_79 : decode cX6_letterOfPage 79 = .ok (.iinc 3 (-1), 3) := by decide +kernel
theorem dX6_letterOfPage_82 : decode cX6_letterOfPage 82 = .ok (.goto 18, 3) := by decide +kernel
theorem dX6_letterOfPage_85 : decode cX6_letterOfPage 85 = .ok (.iload 5, 2) := by decide +kernel
theorem dX6_letterOfPage_87 : decode cX6_letterOfPage 87 = .ok (.iconst 2, 1) := by decide +kernel
theorem dX6_letterOfPage_88 : decode cX6_letterOfPage 88 = .ok (.if_icmp .ne 12, 3) := by decide +kernel
theorem dX6_letterOfPage_91 : decode cX6_letterOfPage 91 = .ok (.iload 6, 2) := by decide +kernel
theorem dX6_letterOfPage_93 : decode cX6_letterOfPage 93 = .ok (.iload_n 3, 1) := by decide +kernel
theorem dX6_letterOfPage_94 : decode cX6_letterOfPage 94 = .ok (.if_icmp .gt 6, 3) := by decide +kernel
theorem dX6_letterOfPage_97 : decode cX6_letterOfPage 97 = .ok (.iinc 3 1, 3) := by decide +kernel
theorem dX6_letterOfPage_100 : decode cX6_letterOfPage 100 = .ok (.iinc 4 (-1), 3) := by decide +kernel
theorem dX6_letterOfPage_103 : decode cX6_letterOfPage 103 = .ok (.goto (-85), 3) := by decide +kernel
theorem dX6_letterOfPage_106 : decode cX6_letterOfPage 106 = .ok (.aload_n 0, 1) := by decide +kernel
theorem dX6_letterOfPage_107 : decode cX6_letterOfPage 107 = .ok (.getfield 10, 3) := by decide +kernel
theorem dX6_letterOfPage_110 : decode cX6_letterOfPage 110 = .ok (.getfield 97, 3) := by decide +kernel
theorem dX6_letterOfPage_113 : decode cX6_letterOfPage 113 = .ok (.getfield 101, 3) := by decide +kernel
theorem dX6_letterOfPage_116 : decode cX6_letterOfPage 116 = .ok (.iload_n 3, 1) := by decide +kernel
theorem dX6_letterOfPage_117 : decode cX6_letterOfPage 117 = .ok (.invokevirtual 107, 3) := by decide +kernel
theorem dX6_letterOfPage_120 : decode cX6_letterOfPage 120 = .ok (.ireturn, 1) := by decide +kernel
theorem dX6_placeOnPage_0 : decode cX6_placeOnPage 0 = .ok (.aload_n 0, 1) := by decide +kernel
theorem dX6_placeOnPage_1 : decode cX6_placeOnPage 1 = .ok (.iload_n 1, 1) := by decide +kernel
theorem dX6_placeOnPage_2 : decode cX6_placeOnPage 2 = .ok (.invokevirtual 69, 3) := by decide +kernel
theorem dX6_placeOnPage_5 : decode cX6_placeOnPage 5 = .ok (.getfield 85, 3) := by decide +kernel
theorem dX6_placeOnPage_8 : decode cX6_placeOnPage 8 = .ok (.astore_n 3, 1) := by decide +kernel
theorem dX6_placeOnPage_9 : decode cX6_placeOnPage 9 = .ok (.aload_n 3, 1) := by decide +kernel
theorem dX6_placeOnPage_10 : decode cX6_placeOnPage 10 = .ok (.invokevirtual 89, 3) := by decide +kernel
theorem dX6_placeOnPage_13 : decode cX6_placeOnPage 13 = .ok (.istore 4, 2) := by decide +kernel
theorem dX6_placeOnPage_15 : decode cX6_placeOnPage 15 = .ok (.iload_n 2, 1) := by decide +kernel
theorem dX6_placeOnPage_16 : decode cX6_placeOnPage 16 = .ok (.istore 5, 2) := by decide +kernel
theorem dX6_placeOnPage_18 : decode cX6_placeOnPage 18 = .ok (.iconst 0, 1) := by decide +kernel
theorem dX6_placeOnPage_19 : decode cX6_placeOnPage 19 = .ok (.istore 6, 2) := by decide +kernel
theorem dX6_placeOnPage_21 : decode cX6_placeOnPage 21 = .ok (.iload 6, 2) := by decide +kernel
theorem dX6_placeOnPage_23 : decode cX6_placeOnPage 23 = .ok (.iload 4, 2) := by decide +kernel
theorem dX6_placeOnPage_25 : decode cX6_placeOnPage 25 = .ok (.if_icmp .ge 81, 3) := by decide +kernel
theorem dX6_placeOnPage_28 : decode cX6_placeOnPage 28 = .ok (.aload_n 3, 1) := by decide +kernel
theorem dX6_placeOnPage_29 : decode cX6_placeOnPage 29 = .ok (.getfield 167, 3) := by decide +kernel
theorem dX6_placeOnPage_32 : decode cX6_placeOnPage 32 = .ok (.iload 6, 2) := by decide +kernel
theorem dX6_placeOnPage_34 : decode cX6_placeOnPage 34 = .ok (.invokevirtual 107, 3) := by decide +kernel
theorem dX6_placeOnPage_37 : decode cX6_placeOnPage 37 = .ok (.istore 7, 2) := by decide +kernel
theorem dX6_placeOnPage_39 : decode cX6_placeOnPage 39 = .ok (.aload_n 3, 1) := by decide +kernel
theorem dX6_placeOnPage_40 : decode cX6_placeOnPage 40 = .ok (.getfield 170, 3) := by decide +kernel
theorem dX6_placeOnPage_43 : decode cX6_placeOnPage 43 = .ok (.iload 6, 2) := by decide +kernel
theorem dX6_placeOnPage_45 : decode cX6_placeOnPage 45 = .ok (.invokevirtual 107, 3) := by decide +kernel
theorem dX6_placeOnPage_48 : decode cX6_placeOnPage 48 = .ok (.istore 8, 2) := by decide +kernel
theorem dX6_placeOnPage_50 : decode cX6_placeOnPage 50 = .ok (.iload 7, 2) := by decide +kernel
theorem dX6_placeOnPage_52 : decode cX6_placeOnPage 52 = .ok (.iconst 2, 1) := by decide +kernel
theorem dX6_placeOnPage_53 : decode cX6_placeOnPage 53 = .ok (.if_icmp .ne 12, 3) := by decide +kernel
theorem dX6_placeOnPage_56 : decode cX6_placeOnPage 56 = .ok (.iload 8, 2) := by decide +kernel
theorem dX6_placeOnPage_58 : decode cX6_placeOnPage 58 = .ok (.iload 5, 2) := by decide +kernel
theorem dX6_placeOnPage_60 : decode cX6_placeOnPage 60 = .ok (.if_icmp .ne 5, 3) := by decide +kernel
theorem dX6_placeOnPage_63 : decode cX6_placeOnPage 63 = .ok (.iconst (-1), 1) := by decide +kernel
theorem dX6_placeOnPage_64 : decode cX6_placeOnPage 64 = .ok (.ireturn, 1) := by decide +kernel
theorem dX6_placeOnPage_65 : decode cX6_placeOnPage 65 = .ok (.iload 7, 2) := by decide +kernel
theorem dX6_placeOnPage_67 : decode cX6_placeOnPage 67 = .ok (.iconst 1, 1) := by decide +kernel
theorem dX6_placeOnPage_68 : decode cX6_placeOnPage 68 = .ok (.if_icmp .ne 16, 3) := by decide +kernel
theorem dX6_placeOnPage_71 : decode cX6_placeOnPage 71 = .ok (.iload 8, 2) := by decide +kernel
theorem dX6_placeOnPage_73 : decode cX6_placeOnPage 73 = .ok (.iload 5, 2) := by decide +kernel
theorem dX6_placeOnPage_75 : decode cX6_placeOnPage 75 = .ok (.if_icmp .gt 9, 3) := by decide +kernel
theorem dX6_placeOnPage_78 : decode cX6_placeOnPage 78 = .ok (.iinc 5 1, 3) := by decide +kernel
theorem dX6_placeOnPage_81 : decode cX6_placeOnPage 81 = .ok (.goto 19, 3) := by decide +kernel
theorem dX6_placeOnPage_84 : decode cX6_placeOnPage 84 = .ok (.iload 7, 2) := by decide +kernel
theorem dX6_placeOnPage_86 : decode cX6_placeOnPage 86 = .ok (.iconst 2, 1) := by decide +kernel
theorem dX6_placeOnPage_87 : decode cX6_placeOnPage 87 = .ok (.if_icmp .ne 13, 3) := by decide +kernel
theorem dX6_placeOnPage_90 : decode cX6_placeOnPage 90 = .ok (.iload 8, 2) := by decide +kernel
theorem dX6_placeOnPage_92 : decode cX6_placeOnPage 92 = .ok (.iload 5, 2) := by decide +kernel
theorem dX6_placeOnPage_94 : decode cX6_placeOnPage 94 = .ok (.if_icmp .ge 6, 3) := by decide +kernel
theorem dX6_placeOnPage_97 : decode cX6_placeOnPage 97 = .ok (.iinc 5 (-1), 3) := by decide +kernel
theorem dX6_placeOnPage_100 : decode cX6_placeOnPage 100 = .ok (.iinc 6 1, 3) := by decide +kernel
theorem dX6_placeOnPage_103 : decode cX6_placeOnPage 103 = .ok (.goto (-82), 3) := by decide +kernel
theorem dX6_placeOnPage_106 : decode cX6_placeOnPage 106 = .ok (.iload 5, 2) := by decide +kernel
theorem dX6_placeOnPage_108 : decode cX6_placeOnPage 108 = .ok (.ireturn, 1) := by decide +kernel
theorem dX7_init_0 : decode cX7_init 0 = .ok (.aload_n 0, 1) := by decide +kernel
theorem dX7_init_1 : decode cX7_init 1 = .ok (.invokespecial 1, 3) := by decide +kernel
theorem dX7_init_4 : decode cX7_init 4 = .ok (.aload_n 0, 1) := by decide +kernel
theorem dX7_init_5 : decode cX7_init 5 = .ok (.iconst 0, 1) := by decide +kernel
theorem dX7_init_6 : decode cX7_init 6 = .ok (.newarray .int, 2) := by decide +kernel
theorem dX7_init_8 : decode cX7_init 8 = .ok (.putfield 7, 3) := by decide +kernel
theorem dX7_init_11 : decode cX7_init 11 = .ok (.aload_n 0, 1) := by decide +kernel
theorem dX7_init_12 : decode cX7_init 12 = .ok (.iconst 0, 1) := by decide +kernel
theorem dX7_init_13 : decode cX7_init 13 = .ok (.newarray .int, 2) := by decide +kernel
theorem dX7_init_15 : decode cX7_init 15 = .ok (.putfield 13, 3) := by decide +kernel
theorem dX7_init_18 : decode cX7_init 18 = .ok (.aload_n 0, 1) := by decide +kernel
theorem dX7_init_19 : decode cX7_init 19 = .ok (.iconst 2, 1) := by decide +kernel
theorem dX7_init_20 : decode cX7_init 20 = .ok (.anewarray 16, 3) := by decide +kernel
theorem dX7_init_23 : decode cX7_init 23 = .ok (.dup, 1) := by decide +kernel
theorem dX7_init_24 : decode cX7_init 24 = .ok (.iconst 0, 1) := by decide +kernel
theorem dX7_init_25 : decode cX7_init 25 = .ok (.iconst 0, 1) := by decide +kernel
theorem dX7_init_26 : decode cX7_init 26 = .ok (.newarray .int, 2) := by decide +kernel
theorem dX7_init_28 : decode cX7_init 28 = .ok (.aastore, 1) := by decide +kernel
theorem dX7_init_29 : decode cX7_init 29 = .ok (.dup, 1) := by decide +kernel
theorem dX7_init_30 : decode cX7_init 30 = .ok (.iconst 1, 1) := by decide +kernel
theorem dX7_init_31 : decode cX7_init 31 = .ok (.iconst 0, 1) := by decide +kernel
theorem dX7_init_32 : decode cX7_init 32 = .ok (.newarray .int, 2) := by decide +kernel
theorem dX7_init_34 : decode cX7_init 34 = .ok (.aastore, 1) := by decide +kernel
theorem dX7_init_35 : decode cX7_init 35 = .ok (.putfield 17, 3) := by decide +kernel
theorem dX7_init_38 : decode cX7_init 38 = .ok (.aload_n 0, 1) := by decide +kernel
theorem dX7_init_39 : decode cX7_init 39 = .ok (.iconst 2, 1) := by decide +kernel
theorem dX7_init_40 : decode cX7_init 40 = .ok (.anewarray 21, 3) := by decide +kernel
theorem dX7_init_43 : decode cX7_init 43 = .ok (.dup, 1) := by decide +kernel
theorem dX7_init_44 : decode cX7_init 44 = .ok (.iconst 0, 1) := by decide +kernel
theorem dX7_init_45 : decode cX7_init 45 = .ok (.iconst 0, 1) := by decide +kernel
theorem dX7_init_46 : decode cX7_init 46 = .ok (.anewarray 16, 3) := by decide +kernel
theorem dX7_init_49 : decode cX7_init 49 = .ok (.aastore, 1) := by decide +kernel
theorem dX7_init_50 : decode cX7_init 50 = .ok (.dup, 1) := by decide +kernel
theorem dX7_init_51 : decode cX7_init 51 = .ok (.iconst 1, 1) := by decide +kernel
theorem dX7_init_52 : decode cX7_init 52 = .ok (.iconst 0, 1) := by decide +kernel
theorem dX7_init_53 : decode cX7_init 53 = .ok (.anewarray 16, 3) := by decide +kernel
theorem dX7_init_56 : decode cX7_init 56 = .ok (.aastore, 1) := by decide +kernel
theorem dX7_init_57 : decode cX7_init 57 = .ok (.putfield 22, 3) := by decide +kernel
theorem dX7_init_60 : decode cX7_init 60 = .ok (.aload_n 0, 1) := by decide +kernel
theorem dX7_init_61 : decode cX7_init 61 = .ok (.iconst 2, 1) := by decide +kernel
theorem dX7_init_62 : decode cX7_init 62 = .ok (.anewarray 21, 3) := by decide +kernel
theorem dX7_init_65 : decode cX7_init 65 = .ok (.dup, 1) := by decide +kernel
theorem dX7_init_66 : decode cX7_init 66 = .ok (.iconst 0, 1) := by decide +kernel
theorem dX7_init_67 : decode cX7_init 67 = .ok (.iconst 0, 1) := by decide +kernel
theorem dX7_init_68 : decode cX7_init 68 = .ok (.anewarray 16, 3) := by decide +kernel
theorem dX7_init_71 : decode cX7_init 71 = .ok (.aastore, 1) := by decide +kernel
theorem dX7_init_72 : decode cX7_init 72 = .ok (.dup, 1) := by decide +kernel
theorem dX7_init_73 : decode cX7_init 73 = .ok (.iconst 1, 1) := by decide +kernel
theorem dX7_init_74 : decode cX7_init 74 = .ok (.iconst 0, 1) := by decide +kernel
theorem dX7_init_75 : decode cX7_init 75 = .ok (.anewarray 16, 3) := by decide +kernel
theorem dX7_init_78 : decode cX7_init 78 = .ok (.aastore, 1) := by decide +kernel
theorem dX7_init_79 : decode cX7_init 79 = .ok (.putfield 26, 3) := by decide +kernel
theorem dX7_init_82 : decode cX7_init 82 = .ok (.aload_n 0, 1) := by decide +kernel
theorem dX7_init_83 : decode cX7_init 83 = .ok (.iconst 2, 1) := by decide +kernel
theorem dX7_init_84 : decode cX7_init 84 = .ok (.newarray .int, 2) := by decide +kernel
theorem dX7_init_86 : decode cX7_init 86 = .ok (.putfield 29, 3) := by decide +kernel
theorem dX7_init_89 : decode cX7_init 89 = .ok (.aload_n 0, 1) := by decide +kernel
theorem dX7_init_90 : decode cX7_init 90 = .ok (.iconst 2, 1) := by decide +kernel
theorem dX7_init_91 : decode cX7_init 91 = .ok (.newarray .int, 2) := by decide +kernel
theorem dX7_init_93 : decode cX7_init 93 = .ok (.putfield 32, 3) := by decide +kernel
theorem dX7_init_96 : decode cX7_init 96 = .ok (.aload_n 0, 1) := by decide +kernel
theorem dX7_init_97 : decode cX7_init 97 = .ok (.iconst 2, 1) := by decide +kernel
theorem dX7_init_98 : decode cX7_init 98 = .ok (.newarray .int, 2) := by decide +kernel
theorem dX7_init_100 : decode cX7_init 100 = .ok (.putfield 35, 3) := by decide +kernel
theorem dX7_init_103 : decode cX7_init 103 = .ok (.return_, 1) := by decide +kernel
