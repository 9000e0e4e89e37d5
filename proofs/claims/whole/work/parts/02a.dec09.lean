theorem dX7_set_0 : decode cX7_set 0 = .ok (.aload_n 0, 1) := by decide +kernel
theorem dX7_set_1 : decode cX7_set 1 = .ok (.iconst 0, 1) := by decide +kernel
theorem dX7_set_2 : decode cX7_set 2 = .ok (.putfield 25, 3) := by decide +kernel
theorem dX7_set_5 : decode cX7_set 5 = .ok (.iload_n 1, 1) := by decide +kernel
theorem dX7_set_6 : decode cX7_set 6 = .ok (.invokestatic 33, 3) := by decide +kernel
theorem dX7_set_9 : decode cX7_set 9 = .ok (.ifCond .eq 19, 3) := by decide +kernel
theorem dX7_set_12 : decode cX7_set 12 = .ok (.iload_n 2, 1) := by decide +kernel
theorem dX7_set_13 : decode cX7_set 13 = .ok (.iconst 0, 1) := by decide +kernel
theorem dX7_set_14 : decode cX7_set 14 = .ok (.aload_n 0, 1) := by decide +kernel
theorem dX7_set_15 : decode cX7_set 15 = .ok (.getfield 17, 3) := by decide +kernel
theorem dX7_set_18 : decode cX7_set 18 = .ok (.iload_n 1, 1) := by decide +kernel
theorem dX7_set_19 : decode cX7_set 19 = .ok (.aaload, 1) := by decide +kernel
theorem dX7_set_20 : decode cX7_set 20 = .ok (.iconst 0, 1) := by decide +kernel
theorem dX7_set_21 : decode cX7_set 21 = .ok (.iaload, 1) := by decide +kernel
theorem dX7_set_22 : decode cX7_set 22 = .ok (.invokestatic 29, 3) := by decide +kernel
theorem dX7_set_25 : decode cX7_set 25 = .ok (.ifCond .ne 9, 3) := by decide +kernel
theorem dX7_set_28 : decode cX7_set 28 = .ok (.aload_n 0, 1) := by decide +kernel
theorem dX7_set_29 : decode cX7_set 29 = .ok (.iconst 1, 1) := by decide +kernel
theorem dX7_set_30 : decode cX7_set 30 = .ok (.invokevirtual 72, 3) := by decide +kernel
theorem dX7_set_33 : decode cX7_set 33 = .ok (.ireturn, 1) := by decide +kernel
theorem dX7_set_34 : decode cX7_set 34 = .ok (.iload_n 3, 1) := by decide +kernel
theorem dX7_set_35 : decode cX7_set 35 = .ok (.iload 4, 2) := by decide +kernel
theorem dX7_set_37 : decode cX7_set 37 = .ok (.invokestatic 75, 3) := by decide +kernel
theorem dX7_set_40 : decode cX7_set 40 = .ok (.ifCond .ne 9, 3) := by decide +kernel
theorem dX7_set_43 : decode cX7_set 43 = .ok (.aload_n 0, 1) := by decide +kernel
theorem dX7_set_44 : decode cX7_set 44 = .ok (.iconst 2, 1) := by decide +kernel
theorem dX7_set_45 : decode cX7_set 45 = .ok (.invokevirtual 72, 3) := by decide +kernel
theorem dX7_set_48 : decode cX7_set 48 = .ok (.ireturn, 1) := by decide +kernel
theorem dX7_set_49 : decode cX7_set 49 = .ok (.aload_n 0, 1) := by decide +kernel
theorem dX7_set_50 : decode cX7_set 50 = .ok (.getfield 17, 3) := by decide +kernel
theorem dX7_set_53 : decode cX7_set 53 = .ok (.iload_n 1, 1) := by decide +kernel
theorem dX7_set_54 : decode cX7_set 54 = .ok (.aaload, 1) := by decide +kernel
theorem dX7_set_55 : decode cX7_set 55 = .ok (.iconst 0, 1) := by decide +kernel
theorem dX7_set_56 : decode cX7_set 56 = .ok (.iaload, 1) := by decide +kernel
theorem dX7_set_57 : decode cX7_set 57 = .ok (.bipush 40, 2) := by decide +kernel
theorem dX7_set_59 : decode cX7_set 59 = .ok (.if_icmp .ge 18, 3) := by decide +kernel
theorem dX7_set_62 : decode cX7_set 62 = .ok (.aload_n 0, 1) := by decide +kernel
theorem dX7_set_63 : decode cX7_set 63 = .ok (.getfield 17, 3) := by decide +kernel
theorem dX7_set_66 : decode cX7_set 66 = .ok (.iconst 1, 1) := by decide +kernel
theorem dX7_set_67 : decode cX7_set 67 = .ok (.iload_n 1, 1) := by decide +kernel
theorem dX7_set_68 : decode cX7_set 68 = .ok (.isub, 1) := by decide +kernel
theorem dX7_set_69 : decode cX7_set 69 = .ok (.aaload, 1) := by decide +kernel
theorem dX7_set_70 : decode cX7_set 70 = .ok (.iconst 1, 1) := by decide +kernel
theorem dX7_set_71 : decode cX7_set 71 = .ok (.iaload, 1) := by decide +kernel
theorem dX7_set_72 : decode cX7_set 72 = .ok (.bipush 12, 2) := by decide +kernel
theorem dX7_set_74 : decode cX7_set 74 = .ok (.if_icmp .ne 9, 3) := by decide +kernel
theorem dX7_set_77 : decode cX7_set 77 = .ok (.aload_n 0, 1) := by decide +kernel
theorem dX7_set_78 : decode cX7_set 78 = .ok (.iconst 3, 1) := by decide +kernel
theorem dX7_set_79 : decode cX7_set 79 = .ok (.invokevirtual 72, 3) := by decide +kernel
theorem dX7_set_82 : decode cX7_set 82 = .ok (.ireturn, 1) := by decide +kernel
theorem dX7_set_83 : decode cX7_set 83 = .ok (.aload_n 0, 1) := by decide +kernel
theorem dX7_set_84 : decode cX7_set 84 = .ok (.iload_n 1, 1) := by decide +kernel
theorem dX7_set_85 : decode cX7_set 85 = .ok (.iload_n 3, 1) := by decide +kernel
theorem dX7_set_86 : decode cX7_set 86 = .ok (.invokevirtual 79, 3) := by decide +kernel
theorem dX7_set_89 : decode cX7_set 89 = .ok (.istore 5, 2) := by decide +kernel
theorem dX7_set_91 : decode cX7_set 91 = .ok (.aload_n 0, 1) := by decide +kernel
theorem dX7_set_92 : decode cX7_set 92 = .ok (.iload_n 1, 1) := by decide +kernel
theorem dX7_set_93 : decode cX7_set 93 = .ok (.iconst 4, 1) := by decide +kernel
theorem dX7_set_94 : decode cX7_set 94 = .ok (.newarray .int, 2) := by decide +kernel
theorem dX7_set_96 : decode cX7_set 96 = .ok (.dup, 1) := by decide +kernel
theorem dX7_set_97 : decode cX7_set 97 = .ok (.iconst 0, 1) := by decide +kernel
theorem dX7_set_98 : decode cX7_set 98 = .ok (.iconst 1, 1) := by decide +kernel
theorem dX7_set_99 : decode cX7_set 99 = .ok (.iastore, 1) := by decide +kernel
theorem dX7_set_100 : decode cX7_set 100 = .ok (.dup, 1) := by decide +kernel
theorem dX7_set_101 : decode cX7_set 101 = .ok (.iconst 1, 1) := by decide +kernel
theorem dX7_set_102 : decode cX7_set 102 = .ok (.iload_n 2, 1) := by decide +kernel
theorem dX7_set_103 : decode cX7_set 103 = .ok (.iastore, 1) := by decide +kernel
theorem dX7_set_104 : decode cX7_set 104 = .ok (.dup, 1) := by decide +kernel
theorem dX7_set_105 : decode cX7_set 105 = .ok (.iconst 2, 1) := by decide +kernel
theorem dX7_set_106 : decode cX7_set 106 = .ok (.iload 4, 2) := by decide +kernel
theorem dX7_set_108 : decode cX7_set 108 = .ok (.iastore, 1) := by decide +kernel
theorem dX7_set_109 : decode cX7_set 109 = .ok (.dup, 1) := by decide +kernel
theorem dX7_set_110 : decode cX7_set 110 = .ok (.iconst 3, 1) := by decide +kernel
theorem dX7_set_111 : decode cX7_set 111 = .ok (.iload 5, 2) := by decide +kernel
theorem dX7_set_113 : decode cX7_set 113 = .ok (.iastore, 1) := by decide +kernel
theorem dX7_set_114 : decode cX7_set 114 = .ok (.invokevirtual 83, 3) := by decide +kernel
theorem dX7_set_117 : decode cX7_set 117 = .ok (.aload_n 0, 1) := by decide +kernel
theorem dX7_set_118 : decode cX7_set 118 = .ok (.iload_n 1, 1) := by decide +kernel
theorem dX7_set_119 : decode cX7_set 119 = .ok (.iconst 1, 1) := by decide +kernel
theorem dX7_set_120 : decode cX7_set 120 = .ok (.iload_n 2, 1) := by decide +kernel
theorem dX7_set_121 : decode cX7_set 121 = .ok (.iload 5, 2) := by decide +kernel
theorem dX7_set_123 : decode cX7_set 123 = .ok (.invokevirtual 86, 3) := by decide +kernel
theorem dX7_set_126 : decode cX7_set 126 = .ok (.aload_n 0, 1) := by decide +kernel
theorem dX7_set_127 : decode cX7_set 127 = .ok (.getfield 17, 3) := by decide +kernel
theorem dX7_set_130 : decode cX7_set 130 = .ok (.iconst 1, 1) := by decide +kernel
theorem dX7_set_131 : decode cX7_set 131 = .ok (.iload_n 1, 1) := by decide +kernel
theorem dX7_set_132 : decode cX7_set 132 = .ok (.isub, 1) := by decide +kernel
theorem dX7_set_133 : decode cX7_set 133 = .ok (.aaload, 1) := by decide +kernel
theorem dX7_set_134 : decode cX7_set 134 = .ok (.iconst 1, 1) := by decide +kernel
theorem dX7_set_135 : decode cX7_set 135 = .ok (.iaload, 1) := by decide +kernel
theorem dX7_set_136 : decode cX7_set 136 = .ok (.ireturn, 1) := by decide +kernel
theorem dX7_strike_0 : decode cX7_strike 0 = .ok (.aload_n 0, 1) := by decide +kernel
theorem dX7_strike_1 : decode cX7_strike 1 = .ok (.iconst 0, 1) := by decide +kernel
theorem dX7_strike_2 : decode cX7_strike 2 = .ok (.putfield 25, 3) := by decide +kernel
theorem dX7_strike_5 : decode cX7_strike 5 = .ok (.aload_n 0, 1) := by decide +kernel
theorem dX7_strike_6 : decode cX7_strike 6 = .ok (.iload_n 1, 1) := by decide +kernel
theorem dX7_strike_7 : decode cX7_strike 7 = .ok (.iload_n 2, 1) := by decide +kernel
theorem dX7_strike_8 : decode cX7_strike 8 = .ok (.invokevirtual 90, 3) := by decide +kernel
theorem dX7_strike_11 : decode cX7_strike 11 = .ok (.ifCond .ne 9, 3) := by decide +kernel
theorem dX7_strike_14 : decode cX7_strike 14 = .ok (.aload_n 0, 1) := by decide +kernel
theorem dX7_strike_15 : decode cX7_strike 15 = .ok (.iconst 1, 1) := by decide +kernel
theorem dX7_strike_16 : decode cX7_strike 16 = .ok (.invokevirtual 72, 3) := by decide +kernel
theorem dX7_strike_19 : decode cX7_strike 19 = .ok (.ireturn, 1) := by decide +kernel
theorem dX7_strike_20 : decode cX7_strike 20 = .ok (.aload_n 0, 1) := by decide +kernel
theorem dX7_strike_21 : decode cX7_strike 21 = .ok (.getfield 17, 3) := by decide +kernel
theorem dX7_strike_24 : decode cX7_strike 24 = .ok (.iconst 1, 1) := by decide +kernel
theorem dX7_strike_25 : decode cX7_strike 25 = .ok (.iload_n 1, 1) := by decide +kernel
theorem dX7_strike_26 : decode cX7_strike 26 = .ok (.isub, 1) := by decide +kernel
theorem dX7_strike_27 : decode cX7_strike 27 = .ok (.aaload, 1) := by decide +kernel
theorem dX7_strike_28 : decode cX7_strike 28 = .ok (.iconst 1, 1) := by decide +kernel
theorem dX7_strike_29 : decode cX7_strike 29 = .ok (.iaload, 1) := by decide +kernel
theorem dX7_strike_30 : decode cX7_strike 30 = .ok (.bipush 12, 2) := by decide +kernel
theorem dX7_strike_32 : decode cX7_strike 32 = .ok (.if_icmp .ne 9, 3) := by decide +kernel
theorem dX7_strike_35 : decode cX7_strike 35 = .ok (.aload_n 0, 1) := by decide +kernel
theorem dX7_strike_36 : decode cX7_strike 36 = .ok (.iconst 2, 1) := by decide +kernel
theorem dX7_strike_37 : decode cX7_strike 37 = .ok (.invokevirtual 72, 3) := by decide +kernel
theorem dX7_strike_40 : decode cX7_strike 40 = .ok (.ireturn, 1) := by decide +kernel
theorem dX7_strike_41 : decode cX7_strike 41 = .ok (.aload_n 0, 1) := by decide +kernel
theorem dX7_strike_42 : decode cX7_strike 42 = .ok (.getfield 11, 3) := by decide +kernel
theorem dX7_strike_45 : decode cX7_strike 45 = .ok (.iload_n 1, 1) := by decide +kernel
theorem dX7_strike_46 : decode cX7_strike 46 = .ok (.aaload, 1) := by decide +kernel
theorem dX7_strike_47 : decode cX7_strike 47 = .ok (.iload_n 2, 1) := by decide +kernel
theorem dX7_strike_48 : decode cX7_strike 48 = .ok (.iaload, 1) := by decide +kernel
theorem dX7_strike_49 : decode cX7_strike 49 = .ok (.istore_n 3, 1) := by decide +kernel
theorem dX7_strike_50 : decode cX7_strike 50 = .ok (.aload_n 0, 1) := by decide +kernel
theorem dX7_strike_51 : decode cX7_strike 51 = .ok (.iload_n 1, 1) := by decide +kernel
theorem dX7_strike_52 : decode cX7_strike 52 = .ok (.iconst 4, 1) := by decide +kernel
theorem dX7_strike_53 : decode cX7_strike 53 = .ok (.newarray .int, 2) := by decide +kernel
theorem dX7_strike_55 : decode cX7_strike 55 = .ok (.dup, 1) := by decide +kernel
theorem dX7_strike_56 : decode cX7_strike 56 = .ok (.iconst 0, 1) := by decide +kernel
theorem dX7_strike_57 : decode cX7_strike 57 = .ok (.iconst 2, 1) := by decide +kernel
theorem dX7_strike_58 : decode cX7_strike 58 = .ok (.iastore, 1) := by decide +kernel
theorem dX7_strike_59 : decode cX7_strike 59 = .ok (.dup, 1) := by decide +kernel
theorem dX7_strike_60 : decode cX7_strike 60 = .ok (.iconst 1, 1) := by decide +kernel
theorem dX7_strike_61 : decode cX7_strike 61 = .ok (.iload_n 2, 1) := by decide +kernel
theorem dX7_strike_62 : decode cX7_strike 62 = .ok (.iastore, 1) := by decide +kernel
theorem dX7_strike_63 : decode cX7_strike 63 = .ok (.dup, 1) := by decide +kernel
theorem dX7_strike_64 : decode cX7_strike 64 = .ok (.iconst 2, 1) := by decide +kernel
theorem dX7_strike_65 : decode cX7_strike 65 = .ok (.iconst 0, 1) := by decide +kernel
theorem dX7_strike_66 : decode cX7_strike 66 = .ok (.iastore, 1) := by decide +kernel
theorem dX7_strike_67 : decode cX7_strike 67 = .ok (.dup, 1) := by decide +kernel
theorem dX7_strike_68 : decode cX7_strike 68 = .ok (.iconst 3, 1) := by decide +kernel
theorem dX7_strike_69 : decode cX7_strike 69 = .ok (.iconst 0, 1) := by decide +kernel
theorem dX7_strike_70 : decode cX7_strike 70 = .ok (.iastore, 1) := by decide +kernel
theorem dX7_strike_71 : decode cX7_strike 71 = .ok (.invokevirtual 83, 3) := by decide +kernel
theorem dX7_strike_74 : decode cX7_strike 74 = .ok (.aload_n 0, 1) := by decide +kernel
theorem dX7_strike_75 : decode cX7_strike 75 = .ok (.iload_n 1, 1) := by decide +kernel
theorem dX7_strike_76 : decode cX7_strike 76 = .ok (.iconst 2, 1) := by decide +kernel
theorem dX7_strike_77 : decode cX7_strike 77 = .ok (.iload_n 2, 1) := by decide +kernel
theorem dX7_strike_78 : decode cX7_strike 78 = .ok (.iload_n 3, 1) := by decide +kernel
theorem dX7_strike_79 : decode cX7_strike 79 = .ok (.invokevirtual 86, 3) := by decide +kernel
theorem dX7_strike_82 : decode cX7_strike 82 = .ok (.iload_n 3, 1) := by decide +kernel
theorem dX7_strike_83 : decode cX7_strike 83 = .ok (.invokestatic 43, 3) := by decide +kernel
theorem dX7_strike_86 : decode cX7_strike 86 = .ok (.ireturn, 1) := by decide +kernel
theorem dX7_find_0 : decode cX7_find 0 = .ok (.iconst 0, 1) := by decide +kernel
theorem dX7_find_1 : decode cX7_find 1 = .ok (.istore_n 3, 1) := by decide +kernel
theorem dX7_find_2 : decode cX7_find 2 = .ok (.iload_n 3, 1) := by decide +kernel
theorem dX7_find_3 : decode cX7_find 3 = .ok (.aload_n 0, 1) := by decide +kernel
theorem dX7_find_4 : decode cX7_find 4 = .ok (.getfield 17, 3) := by decide +kernel
theorem dX7_find_7 : decode cX7_find 7 = .ok (.iload_n 1, 1) := by decide +kernel
theorem dX7_find_8 : decode cX7_find 8 = .ok (.aaload, 1) := by decide +kernel
theorem dX7_find_9 : decode cX7_find 9 = .ok (.iconst 0, 1) := by decide +kernel
theorem dX7_find_10 : decode cX7_find 10 = .ok (.iaload, 1) := by decide +kernel
theorem dX7_find_11 : decode cX7_find 11 = .ok (.if_icmp .ge 23, 3) := by decide +kernel
theorem dX7_find_14 : decode cX7_find 14 = .ok (.aload_n 0, 1) := by decide +kernel
theorem dX7_find_15 : decode cX7_find 15 = .ok (.getfield 11, 3) := by decide +kernel
theorem dX7_find_18 : decode cX7_find 18 = .ok (.iload_n 1, 1) := by decide +kernel
theorem dX7_find_19 : decode cX7_find 19 = .ok (.aaload, 1) := by decide +kernel
theorem dX7_find_20 : decode cX7_find 20 = .ok (.iload_n 3, 1) := by decide +kernel
theorem dX7_find_21 : decode cX7_find 21 = .ok (.iaload, 1) := by decide +kernel
theorem dX7_find_22 : decode cX7_find 22 = .ok (.iload_n 2, 1) := by decide +kernel
theorem dX7_find_23 : decode cX7_find 23 = .ok (.if_icmp .ne 5, 3) := by decide +kernel
theorem dX7_find_26 : decode cX7_find 26 = .ok (.iload_n 3, 1) := by decide +kernel
theorem dX7_find_27 : decode cX7_find 27 = .ok (.ireturn, 1) := by decide +kernel
theorem dX7_find_28 : decode cX7_find 28 = .ok (.iinc 3 1, 3) := by decide +kernel
theorem dX7_find_31 : decode cX7_find 31 = .ok (.goto (-29), 3) := by decide +kernel
theorem dX7_find_34 : decode cX7_find 34 = .ok (.iconst (-1), 1) := by decide +kernel
theorem dX7_find_35 : decode cX7_find 35 = .ok (.ireturn, 1) := by decide +kernel
theorem dX7_undoPlace_0 : decode cX7_undoPlace 0 = .ok (.iconst 3, 1) := by decide +kernel
theorem dX7_undoPlace_1 : decode cX7_undoPlace 1 = .ok (.aload_n 0, 1) := by decide +kernel
theorem dX7_undoPlace_2 : decode cX7_undoPlace 2 = .ok (.getfield 17, 3) := by decide +kernel
theorem dX7_undoPlace_5 : decode cX7_undoPlace 5 = .ok (.iload_n 1, 1) := by decide +kernel
theorem dX7_undoPlace_6 : decode cX7_undoPlace 6 = .ok (.aaload, 1) := by decide +kernel
theorem dX7_undoPlace_7 : decode cX7_undoPlace 7 = .ok (.iconst 5, 1) := by decide +kernel
theorem dX7_undoPlace_8 : decode cX7_undoPlace 8 = .ok (.iaload, 1) := by decide +kernel
theorem dX7_undoPlace_9 : decode cX7_undoPlace 9 = .ok (.iconst 1, 1) := by decide +kernel
theorem dX7_undoPlace_10 : decode cX7_undoPlace 10 = .ok (.isub, 1) := by decide +kernel
theorem dX7_undoPlace_11 : decode cX7_undoPlace 11 = .ok (.imul, 1) := by decide +kernel
theorem dX7_undoPlace_12 : decode cX7_undoPlace 12 = .ok (.istore_n 2, 1) := by decide +kernel
theorem dX7_undoPlace_13 : decode cX7_undoPlace 13 = .ok (.iload_n 2, 1) := by decide +kernel
theorem dX7_undoPlace_14 : decode cX7_undoPlace 14 = .ok (.ifCond .ge 7, 3) := by decide +kernel
theorem dX7_undoPlace_17 : decode cX7_undoPlace 17 = .ok (.iconst (-1), 1) := by decide +kernel
theorem dX7_undoPlace_18 : decode cX7_undoPlace 18 = .ok (.goto 43, 3) := by decide +kernel
theorem dX7_undoPlace_21 : decode cX7_undoPlace 21 = .ok (.aload_n 0, 1) := by decide +kernel
theorem dX7_undoPlace_22 : decode cX7_undoPlace 22 = .ok (.getfield 22, 3) := by decide +kernel
theorem dX7_undoPlace_25 : decode cX7_undoPlace 25 = .ok (.iload_n 1, 1) := by decide +kernel
theorem dX7_undoPlace_26 : decode cX7_undoPlace 26 = .ok (.aaload, 1) := by decide +kernel
theorem dX7_undoPlace_27 : decode cX7_undoPlace 27 = .ok (.iload_n 2, 1) := by decide +kernel
theorem dX7_undoPlace_28 : decode cX7_undoPlace 28 = .ok (.iaload, 1) := by decide +kernel
theorem dX7_undoPlace_29 : decode cX7_undoPlace 29 = .ok (.iconst 1, 1) := by decide +kernel
theorem dX7_undoPlace_30 : decode cX7_undoPlace 30 = .ok (.if_icmp .ne 21, 3) := by decide +kernel
theorem dX7_undoPlace_33 : decode cX7_undoPlace 33 = .ok (.aload_n 0, 1) := by decide +kernel
theorem dX7_undoPlace_34 : decode cX7_undoPlace 34 = .ok (.iload_n 1, 1) := by decide +kernel
theorem dX7_undoPlace_35 : decode cX7_undoPlace 35 = .ok (.aload_n 0, 1) := by decide +kernel
theorem dX7_undoPlace_36 : decode cX7_undoPlace 36 = .ok (.getfield 22, 3) := by decide +kernel
theorem dX7_undoPlace_39 : decode cX7_undoPlace 39 = .ok (.iload_n 1, 1) := by decide +kernel
theorem dX7_undoPlace_40 : decode cX7_undoPlace 40 = .ok (.aaload, 1) := by decide +kernel
theorem dX7_undoPlace_41 : decode cX7_undoPlace 41 = .ok (.iload_n 2, 1) := by decide +kernel
theorem dX7_undoPlace_42 : decode cX7_undoPlace 42 = .ok (.iconst 2, 1) := by decide +kernel
theorem dX7_undoPlace_43 : decode cX7_undoPlace 43 = .ok (.iadd, 1) := by decide +kernel
theorem dX7_undoPlace_44 : decode cX7_undoPlace 44 = .ok (.iaload, 1) := by decide +kernel
theorem dX7_undoPlace_45 : decode cX7_undoPlace 45 = .ok (.invokevirtual 93, 3) := by decide +kernel
theorem dX7_undoPlace_48 : decode cX7_undoPlace 48 = .ok (.goto 13, 3) := by decide +kernel
theorem dX7_undoPlace_51 : decode cX7_undoPlace 51 = .ok (.aload_n 0, 1) := by decide +kernel
theorem dX7_undoPlace_52 : decode cX7_undoPlace 52 = .ok (.getfield 22, 3) := by decide +kernel
theorem dX7_undoPlace_55 : decode cX7_undoPlace 55 = .ok (.iload_n 1, 1) := by decide +kernel
theorem dX7_undoPlace_56 : decode cX7_undoPlace 56 = .ok (.aaload, 1) := by decide +kernel
theorem dX7_undoPlace_57 : decode cX7_undoPlace 57 = .ok (.iload_n 2, 1) := by decide +kernel
theorem dX7_undoPlace_58 : decode cX7_undoPlace 58 = .ok (.iconst 1, 1) := by decide +kernel
theorem dX7_undoPlace_59 : decode cX7_undoPlace 59 = .ok (.iadd, 1) := by decide +kernel
theorem dX7_undoPlace_60 : decode cX7_undoPlace 60 = .ok (.iaload, 1) := by decide +kernel
theorem dX7_undoPlace_61 : decode cX7_undoPlace 61 = .ok (.ireturn, 1) := by decide +kernel
