theorem dX7_carry_0 : decode cX7_carry 0 = .ok (.aload_n 2, 1) := by decide +kernel
theorem dX7_carry_1 : decode cX7_carry 1 = .ok (.iconst 0, 1) := by decide +kernel
theorem dX7_carry_2 : decode cX7_carry 2 = .ok (.iaload, 1) := by decide +kernel
theorem dX7_carry_3 : decode cX7_carry 3 = .ok (.iconst 1, 1) := by decide +kernel
theorem dX7_carry_4 : decode cX7_carry 4 = .ok (.if_icmp .ne 24, 3) := by decide +kernel
theorem dX7_carry_7 : decode cX7_carry 7 = .ok (.aload_n 0, 1) := by decide +kernel
theorem dX7_carry_8 : decode cX7_carry 8 = .ok (.getfield 17, 3) := by decide +kernel
theorem dX7_carry_11 : decode cX7_carry 11 = .ok (.iload_n 1, 1) := by decide +kernel
theorem dX7_carry_12 : decode cX7_carry 12 = .ok (.aload_n 0, 1) := by decide +kernel
theorem dX7_carry_13 : decode cX7_carry 13 = .ok (.getfield 17, 3) := by decide +kernel
theorem dX7_carry_16 : decode cX7_carry 16 = .ok (.iload_n 1, 1) := by decide +kernel
theorem dX7_carry_17 : decode cX7_carry 17 = .ok (.aaload, 1) := by decide +kernel
theorem dX7_carry_18 : decode cX7_carry 18 = .ok (.aload_n 2, 1) := by decide +kernel
theorem dX7_carry_19 : decode cX7_carry 19 = .ok (.iconst 1, 1) := by decide +kernel
theorem dX7_carry_20 : decode cX7_carry 20 = .ok (.iaload, 1) := by decide +kernel
theorem dX7_carry_21 : decode cX7_carry 21 = .ok (.aload_n 2, 1) := by decide +kernel
theorem dX7_carry_22 : decode cX7_carry 22 = .ok (.iconst 5, 1) := by decide +kernel
theorem dX7_carry_23 : decode cX7_carry 23 = .ok (.iaload, 1) := by decide +kernel
theorem dX7_carry_24 : decode cX7_carry 24 = .ok (.invokestatic 54, 3) := by decide +kernel
theorem dX7_carry_27 : decode cX7_carry 27 = .ok (.aastore, 1) := by decide +kernel
theorem dX7_carry_28 : decode cX7_carry 28 = .ok (.aload_n 2, 1) := by decide +kernel
theorem dX7_carry_29 : decode cX7_carry 29 = .ok (.iconst 0, 1) := by decide +kernel
theorem dX7_carry_30 : decode cX7_carry 30 = .ok (.iaload, 1) := by decide +kernel
theorem dX7_carry_31 : decode cX7_carry 31 = .ok (.iconst 2, 1) := by decide +kernel
theorem dX7_carry_32 : decode cX7_carry 32 = .ok (.if_icmp .ne 21, 3) := by decide +kernel
theorem dX7_carry_35 : decode cX7_carry 35 = .ok (.aload_n 0, 1) := by decide +kernel
theorem dX7_carry_36 : decode cX7_carry 36 = .ok (.getfield 17, 3) := by decide +kernel
theorem dX7_carry_39 : decode cX7_carry 39 = .ok (.iload_n 1, 1) := by decide +kernel
theorem dX7_carry_40 : decode cX7_carry 40 = .ok (.aload_n 0, 1) := by decide +kernel
theorem dX7_carry_41 : decode cX7_carry 41 = .ok (.getfield 17, 3) := by decide +kernel
theorem dX7_carry_44 : decode cX7_carry 44 = .ok (.iload_n 1, 1) := by decide +kernel
theorem dX7_carry_45 : decode cX7_carry 45 = .ok (.aaload, 1) := by decide +kernel
theorem dX7_carry_46 : decode cX7_carry 46 = .ok (.aload_n 2, 1) := by decide +kernel
theorem dX7_carry_47 : decode cX7_carry 47 = .ok (.iconst 1, 1) := by decide +kernel
theorem dX7_carry_48 : decode cX7_carry 48 = .ok (.iaload, 1) := by decide +kernel
theorem dX7_carry_49 : decode cX7_carry 49 = .ok (.invokestatic 60, 3) := by decide +kernel
theorem dX7_carry_52 : decode cX7_carry 52 = .ok (.aastore, 1) := by decide +kernel
theorem dX7_carry_53 : decode cX7_carry 53 = .ok (.aload_n 0, 1) := by decide +kernel
theorem dX7_carry_54 : decode cX7_carry 54 = .ok (.getfield 26, 3) := by decide +kernel
theorem dX7_carry_57 : decode cX7_carry 57 = .ok (.iload_n 1, 1) := by decide +kernel
theorem dX7_carry_58 : decode cX7_carry 58 = .ok (.aaload, 1) := by decide +kernel
theorem dX7_carry_59 : decode cX7_carry 59 = .ok (.astore_n 3, 1) := by decide +kernel
theorem dX7_carry_60 : decode cX7_carry 60 = .ok (.aload_n 3, 1) := by decide +kernel
theorem dX7_carry_61 : decode cX7_carry 61 = .ok (.arraylength, 1) := by decide +kernel
theorem dX7_carry_62 : decode cX7_carry 62 = .ok (.istore 4, 2) := by decide +kernel
theorem dX7_carry_64 : decode cX7_carry 64 = .ok (.iconst 0, 1) := by decide +kernel
theorem dX7_carry_65 : decode cX7_carry 65 = .ok (.istore 5, 2) := by decide +kernel
theorem dX7_carry_67 : decode cX7_carry 67 = .ok (.iload 5, 2) := by decide +kernel
theorem dX7_carry_69 : decode cX7_carry 69 = .ok (.iload 4, 2) := by decide +kernel
theorem dX7_carry_71 : decode cX7_carry 71 = .ok (.if_icmp .ge 63, 3) := by decide +kernel
theorem dX7_carry_74 : decode cX7_carry 74 = .ok (.aload_n 3, 1) := by decide +kernel
theorem dX7_carry_75 : decode cX7_carry 75 = .ok (.iload 5, 2) := by decide +kernel
theorem dX7_carry_77 : decode cX7_carry 77 = .ok (.aaload, 1) := by decide +kernel
theorem dX7_carry_78 : decode cX7_carry 78 = .ok (.astore 6, 2) := by decide +kernel
theorem dX7_carry_80 : decode cX7_carry 80 = .ok (.aload 6, 2) := by decide +kernel
theorem dX7_carry_82 : decode cX7_carry 82 = .ok (.iconst 0, 1) := by decide +kernel
theorem dX7_carry_83 : decode cX7_carry 83 = .ok (.iaload, 1) := by decide +kernel
theorem dX7_carry_84 : decode cX7_carry 84 = .ok (.iconst 2, 1) := by decide +kernel
theorem dX7_carry_85 : decode cX7_carry 85 = .ok (.if_icmp .ne 43, 3) := by decide +kernel
theorem dX7_carry_88 : decode cX7_carry 88 = .ok (.aload_n 2, 1) := by decide +kernel
theorem dX7_carry_89 : decode cX7_carry 89 = .ok (.iconst 1, 1) := by decide +kernel
theorem dX7_carry_90 : decode cX7_carry 90 = .ok (.iaload, 1) := by decide +kernel
theorem dX7_carry_91 : decode cX7_carry 91 = .ok (.aload 6, 2) := by decide +kernel
theorem dX7_carry_93 : decode cX7_carry 93 = .ok (.iconst 2, 1) := by decide +kernel
theorem dX7_carry_94 : decode cX7_carry 94 = .ok (.iaload, 1) := by decide +kernel
theorem dX7_carry_95 : decode cX7_carry 95 = .ok (.if_icmp .ge 33, 3) := by decide +kernel
theorem dX7_carry_98 : decode cX7_carry 98 = .ok (.aload 6, 2) := by decide +kernel
theorem dX7_carry_100 : decode cX7_carry 100 = .ok (.iconst 2, 1) := by decide +kernel
theorem dX7_carry_101 : decode cX7_carry 101 = .ok (.dup2, 1) := by decide +kernel
theorem dX7_carry_102 : decode cX7_carry 102 = .ok (.iaload, 1) := by decide +kernel
theorem dX7_carry_103 : decode cX7_carry 103 = .ok (.aload_n 2, 1) := by decide +kernel
theorem dX7_carry_104 : decode cX7_carry 104 = .ok (.iconst 0, 1) := by decide +kernel
theorem dX7_carry_105 : decode cX7_carry 105 = .ok (.iaload, 1) := by decide +kernel
theorem dX7_carry_106 : decode cX7_carry 106 = .ok (.iconst 1, 1) := by decide +kernel
theorem dX7_carry_107 : decode cX7_carry 107 = .ok (.if_icmp .ne 7, 3) := by decide +kernel
theorem dX7_carry_110 : decode cX7_carry 110 = .ok (.iconst 1, 1) := by decide +kernel
theorem dX7_carry_111 : decode cX7_carry 111 = .ok (.goto 15, 3) := by decide +kernel
theorem dX7_carry_114 : decode cX7_carry 114 = .ok (.aload_n 2, 1) := by decide +kernel
theorem dX7_carry_115 : decode cX7_carry 115 = .ok (.iconst 0, 1) := by decide +kernel
theorem dX7_carry_116 : decode cX7_carry 116 = .ok (.iaload, 1) := by decide +kernel
theorem dX7_carry_117 : decode cX7_carry 117 = .ok (.iconst 2, 1) := by decide +kernel
theorem dX7_carry_118 : decode cX7_carry 118 = .ok (.if_icmp .ne 7, 3) := by decide +kernel
theorem dX7_carry_121 : decode cX7_carry 121 = .ok (.iconst (-1), 1) := by decide +kernel
theorem dX7_carry_122 : decode cX7_carry 122 = .ok (.goto 4, 3) := by decide +kernel
theorem dX7_carry_125 : decode cX7_carry 125 = .ok (.iconst 0, 1) := by decide +kernel
theorem dX7_carry_126 : decode cX7_carry 126 = .ok (.iadd, 1) := by decide +kernel
theorem dX7_carry_127 : decode cX7_carry 127 = .ok (.iastore, 1) := by decide +kernel
theorem dX7_carry_128 : decode cX7_carry 128 = .ok (.iinc 5 1, 3) := by decide +kernel
theorem dX7_carry_131 : decode cX7_carry 131 = .ok (.goto (-64), 3) := by decide +kernel
theorem dX7_carry_134 : decode cX7_carry 134 = .ok (.return_, 1) := by decide +kernel
theorem dX7_write_0 : decode cX7_write 0 = .ok (.aload_n 0, 1) := by decide +kernel
theorem dX7_write_1 : decode cX7_write 1 = .ok (.iload_n 1, 1) := by decide +kernel
theorem dX7_write_2 : decode cX7_write 2 = .ok (.aload_n 2, 1) := by decide +kernel
theorem dX7_write_3 : decode cX7_write 3 = .ok (.invokevirtual 64, 3) := by decide +kernel
theorem dX7_write_6 : decode cX7_write 6 = .ok (.aload_n 2, 1) := by decide +kernel
theorem dX7_write_7 : decode cX7_write 7 = .ok (.astore_n 3, 1) := by decide +kernel
theorem dX7_write_8 : decode cX7_write 8 = .ok (.iconst 0, 1) := by decide +kernel
theorem dX7_write_9 : decode cX7_write 9 = .ok (.istore 4, 2) := by decide +kernel
theorem dX7_write_11 : decode cX7_write 11 = .ok (.iload 4, 2) := by decide +kernel
theorem dX7_write_13 : decode cX7_write 13 = .ok (.aload_n 0, 1) := by decide +kernel
theorem dX7_write_14 : decode cX7_write 14 = .ok (.getfield 22, 3) := by decide +kernel
theorem dX7_write_17 : decode cX7_write 17 = .ok (.iload_n 1, 1) := by decide +kernel
theorem dX7_write_18 : decode cX7_write 18 = .ok (.aaload, 1) := by decide +kernel
theorem dX7_write_19 : decode cX7_write 19 = .ok (.arraylength, 1) := by decide +kernel
theorem dX7_write_20 : decode cX7_write 20 = .ok (.if_icmp .ge 83, 3) := by decide +kernel
theorem dX7_write_23 : decode cX7_write 23 = .ok (.aload_n 0, 1) := by decide +kernel
theorem dX7_write_24 : decode cX7_write 24 = .ok (.getfield 22, 3) := by decide +kernel
theorem dX7_write_27 : decode cX7_write 27 = .ok (.iload_n 1, 1) := by decide +kernel
theorem dX7_write_28 : decode cX7_write 28 = .ok (.aaload, 1) := by decide +kernel
theorem dX7_write_29 : decode cX7_write 29 = .ok (.iload 4, 2) := by decide +kernel
theorem dX7_write_31 : decode cX7_write 31 = .ok (.aaload, 1) := by decide +kernel
theorem dX7_write_32 : decode cX7_write 32 = .ok (.astore 5, 2) := by decide +kernel
theorem dX7_write_34 : decode cX7_write 34 = .ok (.aload_n 3, 1) := by decide +kernel
theorem dX7_write_35 : decode cX7_write 35 = .ok (.iconst 0, 1) := by decide +kernel
theorem dX7_write_36 : decode cX7_write 36 = .ok (.iaload, 1) := by decide +kernel
theorem dX7_write_37 : decode cX7_write 37 = .ok (.iconst 1, 1) := by decide +kernel
theorem dX7_write_38 : decode cX7_write 38 = .ok (.if_icmp .ne 31, 3) := by decide +kernel
theorem dX7_write_41 : decode cX7_write 41 = .ok (.aload 5, 2) := by decide +kernel
theorem dX7_write_43 : decode cX7_write 43 = .ok (.iconst 0, 1) := by decide +kernel
theorem dX7_write_44 : decode cX7_write 44 = .ok (.iaload, 1) := by decide +kernel
theorem dX7_write_45 : decode cX7_write 45 = .ok (.iconst 1, 1) := by decide +kernel
theorem dX7_write_46 : decode cX7_write 46 = .ok (.if_icmp .ne 23, 3) := by decide +kernel
theorem dX7_write_49 : decode cX7_write 49 = .ok (.aload_n 3, 1) := by decide +kernel
theorem dX7_write_50 : decode cX7_write 50 = .ok (.iconst 1, 1) := by decide +kernel
theorem dX7_write_51 : decode cX7_write 51 = .ok (.iaload, 1) := by decide +kernel
theorem dX7_write_52 : decode cX7_write 52 = .ok (.aload 5, 2) := by decide +kernel
theorem dX7_write_54 : decode cX7_write 54 = .ok (.iconst 1, 1) := by decide +kernel
theorem dX7_write_55 : decode cX7_write 55 = .ok (.iaload, 1) := by decide +kernel
theorem dX7_write_56 : decode cX7_write 56 = .ok (.if_icmp .ne 13, 3) := by decide +kernel
theorem dX7_write_59 : decode cX7_write 59 = .ok (.aload_n 0, 1) := by decide +kernel
theorem dX7_write_60 : decode cX7_write 60 = .ok (.dup, 1) := by decide +kernel
theorem dX7_write_61 : decode cX7_write 61 = .ok (.getfield 43, 3) := by decide +kernel
theorem dX7_write_64 : decode cX7_write 64 = .ok (.iconst 1, 1) := by decide +kernel
theorem dX7_write_65 : decode cX7_write 65 = .ok (.iadd, 1) := by decide +kernel
theorem dX7_write_66 : decode cX7_write 66 = .ok (.putfield 43, 3) := by decide +kernel
theorem dX7_write_69 : decode cX7_write 69 = .ok (.aload_n 0, 1) := by decide +kernel
theorem dX7_write_70 : decode cX7_write 70 = .ok (.aload_n 3, 1) := by decide +kernel
theorem dX7_write_71 : decode cX7_write 71 = .ok (.aload 5, 2) := by decide +kernel
theorem dX7_write_73 : decode cX7_write 73 = .ok (.invokevirtual 68, 3) := by decide +kernel
theorem dX7_write_76 : decode cX7_write 76 = .ok (.astore 6, 2) := by decide +kernel
theorem dX7_write_78 : decode cX7_write 78 = .ok (.aload_n 0, 1) := by decide +kernel
theorem dX7_write_79 : decode cX7_write 79 = .ok (.getfield 22, 3) := by decide +kernel
theorem dX7_write_82 : decode cX7_write 82 = .ok (.iload_n 1, 1) := by decide +kernel
theorem dX7_write_83 : decode cX7_write 83 = .ok (.aaload, 1) := by decide +kernel
theorem dX7_write_84 : decode cX7_write 84 = .ok (.iload 4, 2) := by decide +kernel
theorem dX7_write_86 : decode cX7_write 86 = .ok (.aload_n 0, 1) := by decide +kernel
theorem dX7_write_87 : decode cX7_write 87 = .ok (.aload 5, 2) := by decide +kernel
theorem dX7_write_89 : decode cX7_write 89 = .ok (.aload_n 3, 1) := by decide +kernel
theorem dX7_write_90 : decode cX7_write 90 = .ok (.invokevirtual 68, 3) := by decide +kernel
theorem dX7_write_93 : decode cX7_write 93 = .ok (.aastore, 1) := by decide +kernel
theorem dX7_write_94 : decode cX7_write 94 = .ok (.aload 6, 2) := by decide +kernel
theorem dX7_write_96 : decode cX7_write 96 = .ok (.astore_n 3, 1) := by decide +kernel
theorem dX7_write_97 : decode cX7_write 97 = .ok (.iinc 4 1, 3) := by decide +kernel
theorem dX7_write_100 : decode cX7_write 100 = .ok (.goto (-89), 3) := by decide +kernel
theorem dX7_write_103 : decode cX7_write 103 = .ok (.aload_n 0, 1) := by decide +kernel
theorem dX7_write_104 : decode cX7_write 104 = .ok (.getfield 22, 3) := by decide +kernel
theorem dX7_write_107 : decode cX7_write 107 = .ok (.iconst 1, 1) := by decide +kernel
theorem dX7_write_108 : decode cX7_write 108 = .ok (.iload_n 1, 1) := by decide +kernel
theorem dX7_write_109 : decode cX7_write 109 = .ok (.isub, 1) := by decide +kernel
theorem dX7_write_110 : decode cX7_write 110 = .ok (.aload_n 0, 1) := by decide +kernel
theorem dX7_write_111 : decode cX7_write 111 = .ok (.getfield 22, 3) := by decide +kernel
theorem dX7_write_114 : decode cX7_write 114 = .ok (.iconst 1, 1) := by decide +kernel
theorem dX7_write_115 : decode cX7_write 115 = .ok (.iload_n 1, 1) := by decide +kernel
theorem dX7_write_116 : decode cX7_write 116 = .ok (.isub, 1) := by decide +kernel
theorem dX7_write_117 : decode cX7_write 117 = .ok (.aaload, 1) := by decide +kernel
theorem dX7_write_118 : decode cX7_write 118 = .ok (.aload_n 3, 1) := by decide +kernel
theorem dX7_write_119 : decode cX7_write 119 = .ok (.invokestatic 72, 3) := by decide +kernel
theorem dX7_write_122 : decode cX7_write 122 = .ok (.aastore, 1) := by decide +kernel
theorem dX7_write_123 : decode cX7_write 123 = .ok (.aload_n 0, 1) := by decide +kernel
theorem dX7_write_124 : decode cX7_write 124 = .ok (.getfield 29, 3) := by decide +kernel
theorem dX7_write_127 : decode cX7_write 127 = .ok (.iload_n 1, 1) := by decide +kernel
theorem dX7_write_128 : decode cX7_write 128 = .ok (.dup2, 1) := by decide +kernel
theorem dX7_write_129 : decode cX7_write 129 = .ok (.iaload, 1) := by decide +kernel
theorem dX7_write_130 : decode cX7_write 130 = .ok (.iconst 1, 1) := by decide +kernel
theorem dX7_write_131 : decode cX7_write 131 = .ok (.iadd, 1) := by decide +kernel
theorem dX7_write_132 : decode cX7_write 132 = .ok (.iastore, 1) := by decide +kernel
theorem dX7_write_133 : decode cX7_write 133 = .ok (.return_, 1) := by decide +kernel
theorem dX7_fresh_0 : decode cX7_fresh 0 = .ok (.aload_n 0, 1) := by decide +kernel
theorem dX7_fresh_1 : decode cX7_fresh 1 = .ok (.aload_n 0, 1) := by decide +kernel
theorem dX7_fresh_2 : decode cX7_fresh 2 = .ok (.getfield 7, 3) := by decide +kernel
theorem dX7_fresh_5 : decode cX7_fresh 5 = .ok (.aload_n 0, 1) := by decide +kernel
theorem dX7_fresh_6 : decode cX7_fresh 6 = .ok (.getfield 7, 3) := by decide +kernel
theorem dX7_fresh_9 : decode cX7_fresh 9 = .ok (.arraylength, 1) := by decide +kernel
theorem dX7_fresh_10 : decode cX7_fresh 10 = .ok (.iload_n 2, 1) := by decide +kernel
theorem dX7_fresh_11 : decode cX7_fresh 11 = .ok (.invokestatic 54, 3) := by decide +kernel
theorem dX7_fresh_14 : decode cX7_fresh 14 = .ok (.putfield 7, 3) := by decide +kernel
theorem dX7_fresh_17 : decode cX7_fresh 17 = .ok (.aload_n 0, 1) := by decide +kernel
theorem dX7_fresh_18 : decode cX7_fresh 18 = .ok (.aload_n 0, 1) := by decide +kernel
theorem dX7_fresh_19 : decode cX7_fresh 19 = .ok (.getfield 13, 3) := by decide +kernel
theorem dX7_fresh_22 : decode cX7_fresh 22 = .ok (.aload_n 0, 1) := by decide +kernel
theorem dX7_fresh_23 : decode cX7_fresh 23 = .ok (.getfield 13, 3) := by decide +kernel
theorem dX7_fresh_26 : decode cX7_fresh 26 = .ok (.arraylength, 1) := by decide +kernel
theorem dX7_fresh_27 : decode cX7_fresh 27 = .ok (.iload_n 1, 1) := by decide +kernel
theorem dX7_fresh_28 : decode cX7_fresh 28 = .ok (.invokestatic 54, 3) := by decide +kernel
theorem dX7_fresh_31 : decode cX7_fresh 31 = .ok (.putfield 13, 3) := by decide +kernel
theorem dX7_fresh_34 : decode cX7_fresh 34 = .ok (.aload_n 0, 1) := by decide +kernel
theorem dX7_fresh_35 : decode cX7_fresh 35 = .ok (.getfield 7, 3) := by decide +kernel
theorem dX7_fresh_38 : decode cX7_fresh 38 = .ok (.arraylength, 1) := by decide +kernel
theorem dX7_fresh_39 : decode cX7_fresh 39 = .ok (.iconst 1, 1) := by decide +kernel
theorem dX7_fresh_40 : decode cX7_fresh 40 = .ok (.isub, 1) := by decide +kernel
theorem dX7_fresh_41 : decode cX7_fresh 41 = .ok (.ireturn, 1) := by decide +kernel
theorem dX7_set_0 : decode cX7_set 0 = .ok (.aload_n 0, 1) := by decide +kernel
theorem dX7_set_1 : decode cX7_set 1 = .ok (.iload_n 1, 1) := by decide +kernel
theorem dX7_set_2 : decode cX7_set 2 = .ok (.iload_n 3, 1) := by decide +kernel
theorem dX7_set_3 : decode cX7_set 3 = .ok (.invokevirtual 76, 3) := by decide +kernel
theorem dX7_set_6 : decode cX7_set 6 = .ok (.istore 5, 2) := by decide +kernel
theorem dX7_set_8 : decode cX7_set 8 = .ok (.aload_n 0, 1) := by decide +kernel
theorem dX7_set_9 : decode cX7_set 9 = .ok (.iload_n 1, 1) := by decide +kernel
theorem dX7_set_10 : decode cX7_set 10 = .ok (.bipush 6, 2) := by decide +kernel
theorem dX7_set_12 : decode cX7_set 12 = .ok (.newarray .int, 2) := by decide +kernel
theorem dX7_set_14 : decode cX7_set 14 = .ok (.dup, 1) := by decide +kernel
theorem dX7_set_15 : decode cX7_set 15 = .ok (.iconst 0, 1) := by decide +kernel
theorem dX7_set_16 : decode cX7_set 16 = .ok (.iconst 1, 1) := by decide +kernel
theorem dX7_set_17 : decode cX7_set 17 = .ok (.iastore, 1) := by decide +kernel
theorem dX7_set_18 : decode cX7_set 18 = .ok (.dup, 1) := by decide +kernel
theorem dX7_set_19 : decode cX7_set 19 = .ok (.iconst 1, 1) := by decide +kernel
theorem dX7_set_20 : decode cX7_set 20 = .ok (.iload_n 2, 1) := by decide +kernel
theorem dX7_set_21 : decode cX7_set 21 = .ok (.iastore, 1) := by decide +kernel
theorem dX7_set_22 : decode cX7_set 22 = .ok (.dup, 1) := by decide +kernel
theorem dX7_set_23 : decode cX7_set 23 = .ok (.iconst 2, 1) := by decide +kernel
theorem dX7_set_24 : decode cX7_set 24 = .ok (.iload 4, 2) := by decide +kernel
theorem dX7_set_26 : decode cX7_set 26 = .ok (.iastore, 1) := by decide +kernel
theorem dX7_set_27 : decode cX7_set 27 = .ok (.dup, 1) := by decide +kernel
theorem dX7_set_28 : decode cX7_set 28 = .ok (.iconst 3, 1) := by decide +kernel
theorem dX7_set_29 : decode cX7_set 29 = .ok (.iload_n 3, 1) := by decide +kernel
theorem dX7_set_30 : decode cX7_set 30 = .ok (.iastore, 1) := by decide +kernel
theorem dX7_set_31 : decode cX7_set 31 = .ok (.dup, 1) := by decide +kernel
theorem dX7_set_32 : decode cX7_set 32 = .ok (.iconst 4, 1) := by decide +kernel
theorem dX7_set_33 : decode cX7_set 33 = .ok (.iload_n 1, 1) := by decide +kernel
theorem dX7_set_34 : decode cX7_set 34 = .ok (.iastore, 1) := by decide +kernel
theorem dX7_set_35 : decode cX7_set 35 = .ok (.dup, 1) := by decide +kernel
theorem dX7_set_36 : decode cX7_set 36 = .ok (.iconst 5, 1) := by decide +kernel
theorem dX7_set_37 : decode cX7_set 37 = .ok (.iload 5, 2) := by decide +kernel
theorem dX7_set_39 : decode cX7_set 39 = .ok (.iastore, 1) := by decide +kernel
theorem dX7_set_40 : decode cX7_set 40 = .ok (.invokevirtual 80, 3) := by decide +kernel
theorem dX7_set_43 : decode cX7_set 43 = .ok (.aload_n 0, 1) := by decide +kernel
theorem dX7_set_44 : decode cX7_set 44 = .ok (.getfield 26, 3) := by decide +kernel
theorem dX7_set_47 : decode cX7_set 47 = .ok (.iload_n 1, 1) := by decide +kernel
theorem dX7_set_48 : decode cX7_set 48 = .ok (.aload_n 0, 1) := by decide +kernel
theorem dX7_set_49 : decode cX7_set 49 = .ok (.getfield 26, 3) := by decide +kernel
theorem dX7_set_52 : decode cX7_set 52 = .ok (.iload_n 1, 1) := by decide +kernel
theorem dX7_set_53 : decode cX7_set 53 = .ok (.aaload, 1) := by decide +kernel
theorem dX7_set_54 : decode cX7_set 54 = .ok (.iconst 3, 1) := by decide +kernel
theorem dX7_set_55 : decode cX7_set 55 = .ok (.newarray .int, 2) := by decide +kernel
theorem dX7_set_57 : decode cX7_set 57 = .ok (.dup, 1) := by decide +kernel
theorem dX7_set_58 : decode cX7_set 58 = .ok (.iconst 0, 1) := by decide +kernel
theorem dX7_set_59 : decode cX7_set 59 = .ok (.iconst 1, 1) := by decide +kernel
theorem dX7_set_60 : decode cX7_set 60 = .ok (.iastore, 1) := by decide +kernel
theorem dX7_set_61 : decode cX7_set 61 = .ok (.dup, 1) := by decide +kernel
theorem dX7_set_62 : decode cX7_set 62 = .ok (.iconst 1, 1) := by decide +kernel
theorem dX7_set_63 : decode cX7_set 63 = .ok (.iload 5, 2) := by decide +kernel
theorem dX7_set_65 : decode cX7_set 65 = .ok (.iastore, 1) := by decide +kernel
theorem dX7_set_66 : decode cX7_set 66 = .ok (.dup, 1) := by decide +kernel
theorem dX7_set_67 : decode cX7_set 67 = .ok (.iconst 2, 1) := by decide +kernel
theorem dX7_set_68 : decode cX7_set 68 = .ok (.iconst 0, 1) := by decide +kernel
theorem dX7_set_69 : decode cX7_set 69 = .ok (.iastore, 1) := by decide +kernel
theorem dX7_set_70 : decode cX7_set 70 = .ok (.invokestatic 72, 3) := by decide +kernel
theorem dX7_set_73 : decode cX7_set 73 = .ok (.aastore, 1) := by decide +kernel
theorem dX7_set_74 : decode cX7_set 74 = .ok (.return_, 1) := by decide +kernel
