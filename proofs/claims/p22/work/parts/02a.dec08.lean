theorem dX7_strike_0 : decode cX7_strike 0 = .ok (.aload_n 0, 1) := by decide +kernel
theorem dX7_strike_1 : decode cX7_strike 1 = .ok (.getfield 7, 3) := by decide +kernel
theorem dX7_strike_4 : decode cX7_strike 4 = .ok (.aload_n 0, 1) := by decide +kernel
theorem dX7_strike_5 : decode cX7_strike 5 = .ok (.getfield 17, 3) := by decide +kernel
theorem dX7_strike_8 : decode cX7_strike 8 = .ok (.iload_n 1, 1) := by decide +kernel
theorem dX7_strike_9 : decode cX7_strike 9 = .ok (.aaload, 1) := by decide +kernel
theorem dX7_strike_10 : decode cX7_strike 10 = .ok (.iload_n 2, 1) := by decide +kernel
theorem dX7_strike_11 : decode cX7_strike 11 = .ok (.iaload, 1) := by decide +kernel
theorem dX7_strike_12 : decode cX7_strike 12 = .ok (.iaload, 1) := by decide +kernel
theorem dX7_strike_13 : decode cX7_strike 13 = .ok (.istore_n 3, 1) := by decide +kernel
theorem dX7_strike_14 : decode cX7_strike 14 = .ok (.aload_n 0, 1) := by decide +kernel
theorem dX7_strike_15 : decode cX7_strike 15 = .ok (.iload_n 1, 1) := by decide +kernel
theorem dX7_strike_16 : decode cX7_strike 16 = .ok (.bipush 6, 2) := by decide +kernel
theorem dX7_strike_18 : decode cX7_strike 18 = .ok (.newarray .int, 2) := by decide +kernel
theorem dX7_strike_20 : decode cX7_strike 20 = .ok (.dup, 1) := by decide +kernel
theorem dX7_strike_21 : decode cX7_strike 21 = .ok (.iconst 0, 1) := by decide +kernel
theorem dX7_strike_22 : decode cX7_strike 22 = .ok (.iconst 2, 1) := by decide +kernel
theorem dX7_strike_23 : decode cX7_strike 23 = .ok (.iastore, 1) := by decide +kernel
theorem dX7_strike_24 : decode cX7_strike 24 = .ok (.dup, 1) := by decide +kernel
theorem dX7_strike_25 : decode cX7_strike 25 = .ok (.iconst 1, 1) := by decide +kernel
theorem dX7_strike_26 : decode cX7_strike 26 = .ok (.iload_n 2, 1) := by decide +kernel
theorem dX7_strike_27 : decode cX7_strike 27 = .ok (.iastore, 1) := by decide +kernel
theorem dX7_strike_28 : decode cX7_strike 28 = .ok (.dup, 1) := by decide +kernel
theorem dX7_strike_29 : decode cX7_strike 29 = .ok (.iconst 2, 1) := by decide +kernel
theorem dX7_strike_30 : decode cX7_strike 30 = .ok (.iconst 0, 1) := by decide +kernel
theorem dX7_strike_31 : decode cX7_strike 31 = .ok (.iastore, 1) := by decide +kernel
theorem dX7_strike_32 : decode cX7_strike 32 = .ok (.dup, 1) := by decide +kernel
theorem dX7_strike_33 : decode cX7_strike 33 = .ok (.iconst 3, 1) := by decide +kernel
theorem dX7_strike_34 : decode cX7_strike 34 = .ok (.iconst 0, 1) := by decide +kernel
theorem dX7_strike_35 : decode cX7_strike 35 = .ok (.iastore, 1) := by decide +kernel
theorem dX7_strike_36 : decode cX7_strike 36 = .ok (.dup, 1) := by decide +kernel
theorem dX7_strike_37 : decode cX7_strike 37 = .ok (.iconst 4, 1) := by decide +kernel
theorem dX7_strike_38 : decode cX7_strike 38 = .ok (.iload_n 1, 1) := by decide +kernel
theorem dX7_strike_39 : decode cX7_strike 39 = .ok (.iastore, 1) := by decide +kernel
theorem dX7_strike_40 : decode cX7_strike 40 = .ok (.dup, 1) := by decide +kernel
theorem dX7_strike_41 : decode cX7_strike 41 = .ok (.iconst 5, 1) := by decide +kernel
theorem dX7_strike_42 : decode cX7_strike 42 = .ok (.iconst 0, 1) := by decide +kernel
theorem dX7_strike_43 : decode cX7_strike 43 = .ok (.iastore, 1) := by decide +kernel
theorem dX7_strike_44 : decode cX7_strike 44 = .ok (.invokevirtual 80, 3) := by decide +kernel
theorem dX7_strike_47 : decode cX7_strike 47 = .ok (.aload_n 0, 1) := by decide +kernel
theorem dX7_strike_48 : decode cX7_strike 48 = .ok (.getfield 26, 3) := by decide +kernel
theorem dX7_strike_51 : decode cX7_strike 51 = .ok (.iload_n 1, 1) := by decide +kernel
theorem dX7_strike_52 : decode cX7_strike 52 = .ok (.aload_n 0, 1) := by decide +kernel
theorem dX7_strike_53 : decode cX7_strike 53 = .ok (.getfield 26, 3) := by decide +kernel
theorem dX7_strike_56 : decode cX7_strike 56 = .ok (.iload_n 1, 1) := by decide +kernel
theorem dX7_strike_57 : decode cX7_strike 57 = .ok (.aaload, 1) := by decide +kernel
theorem dX7_strike_58 : decode cX7_strike 58 = .ok (.iconst 3, 1) := by decide +kernel
theorem dX7_strike_59 : decode cX7_strike 59 = .ok (.newarray .int, 2) := by decide +kernel
theorem dX7_strike_61 : decode cX7_strike 61 = .ok (.dup, 1) := by decide +kernel
theorem dX7_strike_62 : decode cX7_strike 62 = .ok (.iconst 0, 1) := by decide +kernel
theorem dX7_strike_63 : decode cX7_strike 63 = .ok (.iconst 2, 1) := by decide +kernel
theorem dX7_strike_64 : decode cX7_strike 64 = .ok (.iastore, 1) := by decide +kernel
theorem dX7_strike_65 : decode cX7_strike 65 = .ok (.dup, 1) := by decide +kernel
theorem dX7_strike_66 : decode cX7_strike 66 = .ok (.iconst 1, 1) := by decide +kernel
theorem dX7_strike_67 : decode cX7_strike 67 = .ok (.iload_n 3, 1) := by decide +kernel
theorem dX7_strike_68 : decode cX7_strike 68 = .ok (.iastore, 1) := by decide +kernel
theorem dX7_strike_69 : decode cX7_strike 69 = .ok (.dup, 1) := by decide +kernel
theorem dX7_strike_70 : decode cX7_strike 70 = .ok (.iconst 2, 1) := by decide +kernel
theorem dX7_strike_71 : decode cX7_strike 71 = .ok (.iload_n 2, 1) := by decide +kernel
theorem dX7_strike_72 : decode cX7_strike 72 = .ok (.iastore, 1) := by decide +kernel
theorem dX7_strike_73 : decode cX7_strike 73 = .ok (.invokestatic 72, 3) := by decide +kernel
theorem dX7_strike_76 : decode cX7_strike 76 = .ok (.aastore, 1) := by decide +kernel
theorem dX7_strike_77 : decode cX7_strike 77 = .ok (.iload_n 3, 1) := by decide +kernel
theorem dX7_strike_78 : decode cX7_strike 78 = .ok (.ireturn, 1) := by decide +kernel
theorem dX7_find_0 : decode cX7_find 0 = .ok (.iconst 0, 1) := by decide +kernel
theorem dX7_find_1 : decode cX7_find 1 = .ok (.istore_n 3, 1) := by decide +kernel
theorem dX7_find_2 : decode cX7_find 2 = .ok (.iload_n 3, 1) := by decide +kernel
theorem dX7_find_3 : decode cX7_find 3 = .ok (.aload_n 0, 1) := by decide +kernel
theorem dX7_find_4 : decode cX7_find 4 = .ok (.getfield 17, 3) := by decide +kernel
theorem dX7_find_7 : decode cX7_find 7 = .ok (.iload_n 1, 1) := by decide +kernel
theorem dX7_find_8 : decode cX7_find 8 = .ok (.aaload, 1) := by decide +kernel
theorem dX7_find_9 : decode cX7_find 9 = .ok (.arraylength, 1) := by decide +kernel
theorem dX7_find_10 : decode cX7_find 10 = .ok (.if_icmp .ge 23, 3) := by decide +kernel
theorem dX7_find_13 : decode cX7_find 13 = .ok (.aload_n 0, 1) := by decide +kernel
theorem dX7_find_14 : decode cX7_find 14 = .ok (.getfield 17, 3) := by decide +kernel
theorem dX7_find_17 : decode cX7_find 17 = .ok (.iload_n 1, 1) := by decide +kernel
theorem dX7_find_18 : decode cX7_find 18 = .ok (.aaload, 1) := by decide +kernel
theorem dX7_find_19 : decode cX7_find 19 = .ok (.iload_n 3, 1) := by decide +kernel
theorem dX7_find_20 : decode cX7_find 20 = .ok (.iaload, 1) := by decide +kernel
theorem dX7_find_21 : decode cX7_find 21 = .ok (.iload_n 2, 1) := by decide +kernel
theorem dX7_find_22 : decode cX7_find 22 = .ok (.if_icmp .ne 5, 3) := by decide +kernel
theorem dX7_find_25 : decode cX7_find 25 = .ok (.iload_n 3, 1) := by decide +kernel
theorem dX7_find_26 : decode cX7_find 26 = .ok (.ireturn, 1) := by decide +kernel
theorem dX7_find_27 : decode cX7_find 27 = .ok (.iinc 3 1, 3) := by decide +kernel
theorem dX7_find_30 : decode cX7_find 30 = .ok (.goto (-28), 3) := by decide +kernel
theorem dX7_find_33 : decode cX7_find 33 = .ok (.iconst (-1), 1) := by decide +kernel
theorem dX7_find_34 : decode cX7_find 34 = .ok (.ireturn, 1) := by decide +kernel
theorem dX7_undoes_0 : decode cX7_undoes 0 = .ok (.aload_n 0, 1) := by decide +kernel
theorem dX7_undoes_1 : decode cX7_undoes 1 = .ok (.getfield 26, 3) := by decide +kernel
theorem dX7_undoes_4 : decode cX7_undoes 4 = .ok (.iload_n 1, 1) := by decide +kernel
theorem dX7_undoes_5 : decode cX7_undoes 5 = .ok (.aaload, 1) := by decide +kernel
theorem dX7_undoes_6 : decode cX7_undoes 6 = .ok (.arraylength, 1) := by decide +kernel
theorem dX7_undoes_7 : decode cX7_undoes 7 = .ok (.ifCond .ne 5, 3) := by decide +kernel
theorem dX7_undoes_10 : decode cX7_undoes 10 = .ok (.iconst (-1), 1) := by decide +kernel
theorem dX7_undoes_11 : decode cX7_undoes 11 = .ok (.ireturn, 1) := by decide +kernel
theorem dX7_undoes_12 : decode cX7_undoes 12 = .ok (.aload_n 0, 1) := by decide +kernel
theorem dX7_undoes_13 : decode cX7_undoes 13 = .ok (.getfield 26, 3) := by decide +kernel
theorem dX7_undoes_16 : decode cX7_undoes 16 = .ok (.iload_n 1, 1) := by decide +kernel
theorem dX7_undoes_17 : decode cX7_undoes 17 = .ok (.aaload, 1) := by decide +kernel
theorem dX7_undoes_18 : decode cX7_undoes 18 = .ok (.aload_n 0, 1) := by decide +kernel
theorem dX7_undoes_19 : decode cX7_undoes 19 = .ok (.getfield 26, 3) := by decide +kernel
theorem dX7_undoes_22 : decode cX7_undoes 22 = .ok (.iload_n 1, 1) := by decide +kernel
theorem dX7_undoes_23 : decode cX7_undoes 23 = .ok (.aaload, 1) := by decide +kernel
theorem dX7_undoes_24 : decode cX7_undoes 24 = .ok (.arraylength, 1) := by decide +kernel
theorem dX7_undoes_25 : decode cX7_undoes 25 = .ok (.iconst 1, 1) := by decide +kernel
theorem dX7_undoes_26 : decode cX7_undoes 26 = .ok (.isub, 1) := by decide +kernel
theorem dX7_undoes_27 : decode cX7_undoes 27 = .ok (.aaload, 1) := by decide +kernel
theorem dX7_undoes_28 : decode cX7_undoes 28 = .ok (.astore_n 2, 1) := by decide +kernel
theorem dX7_undoes_29 : decode cX7_undoes 29 = .ok (.aload_n 2, 1) := by decide +kernel
theorem dX7_undoes_30 : decode cX7_undoes 30 = .ok (.iconst 0, 1) := by decide +kernel
theorem dX7_undoes_31 : decode cX7_undoes 31 = .ok (.iaload, 1) := by decide +kernel
theorem dX7_undoes_32 : decode cX7_undoes 32 = .ok (.iconst 1, 1) := by decide +kernel
theorem dX7_undoes_33 : decode cX7_undoes 33 = .ok (.if_icmp .ne 14, 3) := by decide +kernel
theorem dX7_undoes_36 : decode cX7_undoes 36 = .ok (.aload_n 0, 1) := by decide +kernel
theorem dX7_undoes_37 : decode cX7_undoes 37 = .ok (.iload_n 1, 1) := by decide +kernel
theorem dX7_undoes_38 : decode cX7_undoes 38 = .ok (.aload_n 2, 1) := by decide +kernel
theorem dX7_undoes_39 : decode cX7_undoes 39 = .ok (.iconst 1, 1) := by decide +kernel
theorem dX7_undoes_40 : decode cX7_undoes 40 = .ok (.iaload, 1) := by decide +kernel
theorem dX7_undoes_41 : decode cX7_undoes 41 = .ok (.invokevirtual 83, 3) := by decide +kernel
theorem dX7_undoes_44 : decode cX7_undoes 44 = .ok (.goto 6, 3) := by decide +kernel
theorem dX7_undoes_47 : decode cX7_undoes 47 = .ok (.aload_n 2, 1) := by decide +kernel
theorem dX7_undoes_48 : decode cX7_undoes 48 = .ok (.iconst 2, 1) := by decide +kernel
theorem dX7_undoes_49 : decode cX7_undoes 49 = .ok (.iaload, 1) := by decide +kernel
theorem dX7_undoes_50 : decode cX7_undoes 50 = .ok (.ireturn, 1) := by decide +kernel
theorem dX7_undo_0 : decode cX7_undo 0 = .ok (.aload_n 0, 1) := by decide +kernel
theorem dX7_undo_1 : decode cX7_undo 1 = .ok (.iload_n 1, 1) := by decide +kernel
theorem dX7_undo_2 : decode cX7_undo 2 = .ok (.invokevirtual 86, 3) := by decide +kernel
theorem dX7_undo_5 : decode cX7_undo 5 = .ok (.istore_n 2, 1) := by decide +kernel
theorem dX7_undo_6 : decode cX7_undo 6 = .ok (.aload_n 0, 1) := by decide +kernel
theorem dX7_undo_7 : decode cX7_undo 7 = .ok (.getfield 26, 3) := by decide +kernel
theorem dX7_undo_10 : decode cX7_undo 10 = .ok (.iload_n 1, 1) := by decide +kernel
theorem dX7_undo_11 : decode cX7_undo 11 = .ok (.aaload, 1) := by decide +kernel
theorem dX7_undo_12 : decode cX7_undo 12 = .ok (.arraylength, 1) := by decide +kernel
theorem dX7_undo_13 : decode cX7_undo 13 = .ok (.iconst 1, 1) := by decide +kernel
theorem dX7_undo_14 : decode cX7_undo 14 = .ok (.isub, 1) := by decide +kernel
theorem dX7_undo_15 : decode cX7_undo 15 = .ok (.istore_n 3, 1) := by decide +kernel
theorem dX7_undo_16 : decode cX7_undo 16 = .ok (.aload_n 0, 1) := by decide +kernel
theorem dX7_undo_17 : decode cX7_undo 17 = .ok (.getfield 26, 3) := by decide +kernel
theorem dX7_undo_20 : decode cX7_undo 20 = .ok (.iload_n 1, 1) := by decide +kernel
theorem dX7_undo_21 : decode cX7_undo 21 = .ok (.aaload, 1) := by decide +kernel
theorem dX7_undo_22 : decode cX7_undo 22 = .ok (.iload_n 3, 1) := by decide +kernel
theorem dX7_undo_23 : decode cX7_undo 23 = .ok (.aaload, 1) := by decide +kernel
theorem dX7_undo_24 : decode cX7_undo 24 = .ok (.astore 4, 2) := by decide +kernel
theorem dX7_undo_26 : decode cX7_undo 26 = .ok (.iload_n 3, 1) := by decide +kernel
theorem dX7_undo_27 : decode cX7_undo 27 = .ok (.anewarray 16, 3) := by decide +kernel
theorem dX7_undo_30 : decode cX7_undo 30 = .ok (.astore 5, 2) := by decide +kernel
theorem dX7_undo_32 : decode cX7_undo 32 = .ok (.iconst 0, 1) := by decide +kernel
theorem dX7_undo_33 : decode cX7_undo 33 = .ok (.istore 6, 2) := by decide +kernel
theorem dX7_undo_35 : decode cX7_undo 35 = .ok (.iload 6, 2) := by decide +kernel
theorem dX7_undo_37 : decode cX7_undo 37 = .ok (.iload_n 3, 1) := by decide +kernel
theorem dX7_undo_38 : decode cX7_undo 38 = .ok (.if_icmp .ge 23, 3) := by decide +kernel
theorem dX7_undo_41 : decode cX7_undo 41 = .ok (.aload 5, 2) := by decide +kernel
theorem dX7_undo_43 : decode cX7_undo 43 = .ok (.iload 6, 2) := by decide +kernel
theorem dX7_undo_45 : decode cX7_undo 45 = .ok (.aload_n 0, 1) := by decide +kernel
theorem dX7_undo_46 : decode cX7_undo 46 = .ok (.getfield 26, 3) := by decide +kernel
theorem dX7_undo_49 : decode cX7_undo 49 = .ok (.iload_n 1, 1) := by decide +kernel
theorem dX7_undo_50 : decode cX7_undo 50 = .ok (.aaload, 1) := by decide +kernel
theorem dX7_undo_51 : decode cX7_undo 51 = .ok (.iload 6, 2) := by decide +kernel
theorem dX7_undo_53 : decode cX7_undo 53 = .ok (.aaload, 1) := by decide +kernel
theorem dX7_undo_54 : decode cX7_undo 54 = .ok (.aastore, 1) := by decide +kernel
theorem dX7_undo_55 : decode cX7_undo 55 = .ok (.iinc 6 1, 3) := by decide +kernel
theorem dX7_undo_58 : decode cX7_undo 58 = .ok (.goto (-23), 3) := by decide +kernel
theorem dX7_undo_61 : decode cX7_undo 61 = .ok (.aload_n 0, 1) := by decide +kernel
theorem dX7_undo_62 : decode cX7_undo 62 = .ok (.getfield 26, 3) := by decide +kernel
theorem dX7_undo_65 : decode cX7_undo 65 = .ok (.iload_n 1, 1) := by decide +kernel
theorem dX7_undo_66 : decode cX7_undo 66 = .ok (.aload 5, 2) := by decide +kernel
theorem dX7_undo_68 : decode cX7_undo 68 = .ok (.aastore, 1) := by decide +kernel
theorem dX7_undo_69 : decode cX7_undo 69 = .ok (.aload 4, 2) := by decide +kernel
theorem dX7_undo_71 : decode cX7_undo 71 = .ok (.iconst 0, 1) := by decide +kernel
theorem dX7_undo_72 : decode cX7_undo 72 = .ok (.iaload, 1) := by decide +kernel
theorem dX7_undo_73 : decode cX7_undo 73 = .ok (.iconst 2, 1) := by decide +kernel
theorem dX7_undo_74 : decode cX7_undo 74 = .ok (.if_icmp .ne 50, 3) := by decide +kernel
theorem dX7_undo_77 : decode cX7_undo 77 = .ok (.aload_n 0, 1) := by decide +kernel
theorem dX7_undo_78 : decode cX7_undo 78 = .ok (.iload_n 1, 1) := by decide +kernel
theorem dX7_undo_79 : decode cX7_undo 79 = .ok (.bipush 6, 2) := by decide +kernel
theorem dX7_undo_81 : decode cX7_undo 81 = .ok (.newarray .int, 2) := by decide +kernel
theorem dX7_undo_83 : decode cX7_undo 83 = .ok (.dup, 1) := by decide +kernel
theorem dX7_undo_84 : decode cX7_undo 84 = .ok (.iconst 0, 1) := by decide +kernel
theorem dX7_undo_85 : decode cX7_undo 85 = .ok (.iconst 1, 1) := by decide +kernel
theorem dX7_undo_86 : decode cX7_undo 86 = .ok (.iastore, 1) := by decide +kernel
theorem dX7_undo_87 : decode cX7_undo 87 = .ok (.dup, 1) := by decide +kernel
theorem dX7_undo_88 : decode cX7_undo 88 = .ok (.iconst 1, 1) := by decide +kernel
theorem dX7_undo_89 : decode cX7_undo 89 = .ok (.iload_n 2, 1) := by decide +kernel
theorem dX7_undo_90 : decode cX7_undo 90 = .ok (.iastore, 1) := by decide +kernel
theorem dX7_undo_91 : decode cX7_undo 91 = .ok (.dup, 1) := by decide +kernel
theorem dX7_undo_92 : decode cX7_undo 92 = .ok (.iconst 2, 1) := by decide +kernel
theorem dX7_undo_93 : decode cX7_undo 93 = .ok (.iconst 0, 1) := by decide +kernel
theorem dX7_undo_94 : decode cX7_undo 94 = .ok (.iastore, 1) := by decide +kernel
theorem dX7_undo_95 : decode cX7_undo 95 = .ok (.dup, 1) := by decide +kernel
theorem dX7_undo_96 : decode cX7_undo 96 = .ok (.iconst 3, 1) := by decide +kernel
theorem dX7_undo_97 : decode cX7_undo 97 = .ok (.aload 4, 2) := by decide +kernel
theorem dX7_undo_99 : decode cX7_undo 99 = .ok (.iconst 1, 1) := by decide +kernel
theorem dX7_undo_100 : decode cX7_undo 100 = .ok (.iaload, 1) := by decide +kernel
theorem dX7_undo_101 : decode cX7_undo 101 = .ok (.iastore, 1) := by decide +kernel
theorem dX7_undo_102 : decode cX7_undo 102 = .ok (.dup, 1) := by decide +kernel
theorem dX7_undo_103 : decode cX7_undo 103 = .ok (.iconst 4, 1) := by decide +kernel
theorem dX7_undo_104 : decode cX7_undo 104 = .ok (.iload_n 1, 1) := by decide +kernel
theorem dX7_undo_105 : decode cX7_undo 105 = .ok (.iastore, 1) := by decide +kernel
theorem dX7_undo_106 : decode cX7_undo 106 = .ok (.dup, 1) := by decide +kernel
theorem dX7_undo_107 : decode cX7_undo 107 = .ok (.iconst 5, 1) := by decide +kernel
theorem dX7_undo_108 : decode cX7_undo 108 = .ok (.aload_n 0, 1) := by decide +kernel
theorem dX7_undo_109 : decode cX7_undo 109 = .ok (.iload_n 1, 1) := by decide +kernel
theorem dX7_undo_110 : decode cX7_undo 110 = .ok (.aload 4, 2) := by decide +kernel
theorem dX7_undo_112 : decode cX7_undo 112 = .ok (.iconst 1, 1) := by decide +kernel
theorem dX7_undo_113 : decode cX7_undo 113 = .ok (.iaload, 1) := by decide +kernel
theorem dX7_undo_114 : decode cX7_undo 114 = .ok (.invokevirtual 76, 3) := by decide +kernel
theorem dX7_undo_117 : decode cX7_undo 117 = .ok (.iastore, 1) := by decide +kernel
theorem dX7_undo_118 : decode cX7_undo 118 = .ok (.invokevirtual 80, 3) := by decide +kernel
theorem dX7_undo_121 : decode cX7_undo 121 = .ok (.goto 40, 3) := by decide +kernel
theorem dX7_undo_124 : decode cX7_undo 124 = .ok (.iload_n 2, 1) := by decide +kernel
theorem dX7_undo_125 : decode cX7_undo 125 = .ok (.ifCond .lt 36, 3) := by decide +kernel
theorem dX7_undo_128 : decode cX7_undo 128 = .ok (.aload_n 0, 1) := by decide +kernel
theorem dX7_undo_129 : decode cX7_undo 129 = .ok (.iload_n 1, 1) := by decide +kernel
theorem dX7_undo_130 : decode cX7_undo 130 = .ok (.bipush 6, 2) := by decide +kernel
theorem dX7_undo_132 : decode cX7_undo 132 = .ok (.newarray .int, 2) := by decide +kernel
theorem dX7_undo_134 : decode cX7_undo 134 = .ok (.dup, 1) := by decide +kernel
theorem dX7_undo_135 : decode cX7_undo 135 = .ok (.iconst 0, 1) := by decide +kernel
theorem dX7_undo_136 : decode cX7_undo 136 = .ok (.iconst 2, 1) := by decide +kernel
theorem dX7_undo_137 : decode cX7_undo 137 = .ok (.iastore, 1) := by decide +kernel
theorem dX7_undo_138 : decode cX7_undo 138 = .ok (.dup, 1) := by decide +kernel
theorem dX7_undo_139 : decode cX7_undo 139 = .ok (.iconst 1, 1) := by decide +kernel
theorem dX7_undo_140 : decode cX7_undo 140 = .ok (.iload_n 2, 1) := by decide +kernel
theorem dX7_undo_141 : decode cX7_undo 141 = .ok (.iastore, 1) := by decide +kernel
theorem dX7_undo_142 : decode cX7_undo 142 = .ok (.dup, 1) := by decide +kernel
theorem dX7_undo_143 : decode cX7_undo 143 = .ok (.iconst 2, 1) := by decide +kernel
theorem dX7_undo_144 : decode cX7_undo 144 = .ok (.iconst 0, 1) := by decide +kernel
theorem dX7_undo_145 : decode cX7_undo 145 = .ok (.iastore, 1) := by decide +kernel
theorem dX7_undo_146 : decode cX7_undo 146 = .ok (.dup, 1) := by decide +kernel
theorem dX7_undo_147 : decode cX7_undo 147 = .ok (.iconst 3, 1) := by decide +kernel
theorem dX7_undo_148 : decode cX7_undo 148 = .ok (.iconst 0, 1) := by decide +kernel
theorem dX7_undo_149 : decode cX7_undo 149 = .ok (.iastore, 1) := by decide +kernel
theorem dX7_undo_150 : decode cX7_undo 150 = .ok (.dup, 1) := by decide +kernel
theorem dX7_undo_151 : decode cX7_undo 151 = .ok (.iconst 4, 1) := by decide +kernel
theorem dX7_undo_152 : decode cX7_undo 152 = .ok (.iload_n 1, 1) := by decide +kernel
theorem dX7_undo_153 : decode cX7_undo 153 = .ok (.iastore, 1) := by decide +kernel
theorem dX7_undo_154 : decode cX7_undo 154 = .ok (.dup, 1) := by decide +kernel
theorem dX7_undo_155 : decode cX7_undo 155 = .ok (.iconst 5, 1) := by decide +kernel
theorem dX7_undo_156 : decode cX7_undo 156 = .ok (.iconst 0, 1) := by decide +kernel
theorem dX7_undo_157 : decode cX7_undo 157 = .ok (.iastore, 1) := by decide +kernel
theorem dX7_undo_158 : decode cX7_undo 158 = .ok (.invokevirtual 80, 3) := by decide +kernel
theorem dX7_undo_161 : decode cX7_undo 161 = .ok (.iload_n 2, 1) := by decide +kernel
theorem dX7_undo_162 : decode cX7_undo 162 = .ok (.ireturn, 1) := by decide +kernel
