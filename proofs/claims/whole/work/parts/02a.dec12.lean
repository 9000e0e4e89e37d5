theorem dX7_paged_0 : decode cX7_paged 0 = .ok (.sipush 129, 3) := by decide +kernel
theorem dX7_paged_3 : decode cX7_paged 3 = .ok (.newarray .int, 2) := by decide +kernel
theorem dX7_paged_5 : decode cX7_paged 5 = .ok (.astore_n 2, 1) := by decide +kernel
theorem dX7_paged_6 : decode cX7_paged 6 = .ok (.aload_n 0, 1) := by decide +kernel
theorem dX7_paged_7 : decode cX7_paged 7 = .ok (.getfield 11, 3) := by decide +kernel
theorem dX7_paged_10 : decode cX7_paged 10 = .ok (.iload_n 1, 1) := by decide +kernel
theorem dX7_paged_11 : decode cX7_paged 11 = .ok (.aaload, 1) := by decide +kernel
theorem dX7_paged_12 : decode cX7_paged 12 = .ok (.iconst 0, 1) := by decide +kernel
theorem dX7_paged_13 : decode cX7_paged 13 = .ok (.aload_n 2, 1) := by decide +kernel
theorem dX7_paged_14 : decode cX7_paged 14 = .ok (.iconst 0, 1) := by decide +kernel
theorem dX7_paged_15 : decode cX7_paged 15 = .ok (.aload_n 0, 1) := by decide +kernel
theorem dX7_paged_16 : decode cX7_paged 16 = .ok (.getfield 17, 3) := by decide +kernel
theorem dX7_paged_19 : decode cX7_paged 19 = .ok (.iload_n 1, 1) := by decide +kernel
theorem dX7_paged_20 : decode cX7_paged 20 = .ok (.aaload, 1) := by decide +kernel
theorem dX7_paged_21 : decode cX7_paged 21 = .ok (.iconst 0, 1) := by decide +kernel
theorem dX7_paged_22 : decode cX7_paged 22 = .ok (.iaload, 1) := by decide +kernel
theorem dX7_paged_23 : decode cX7_paged 23 = .ok (.invokestatic 51, 3) := by decide +kernel
theorem dX7_paged_26 : decode cX7_paged 26 = .ok (.aload_n 0, 1) := by decide +kernel
theorem dX7_paged_27 : decode cX7_paged 27 = .ok (.getfield 17, 3) := by decide +kernel
theorem dX7_paged_30 : decode cX7_paged 30 = .ok (.iload_n 1, 1) := by decide +kernel
theorem dX7_paged_31 : decode cX7_paged 31 = .ok (.aaload, 1) := by decide +kernel
theorem dX7_paged_32 : decode cX7_paged 32 = .ok (.iconst 0, 1) := by decide +kernel
theorem dX7_paged_33 : decode cX7_paged 33 = .ok (.iaload, 1) := by decide +kernel
theorem dX7_paged_34 : decode cX7_paged 34 = .ok (.istore_n 3, 1) := by decide +kernel
theorem dX7_paged_35 : decode cX7_paged 35 = .ok (.iconst 0, 1) := by decide +kernel
theorem dX7_paged_36 : decode cX7_paged 36 = .ok (.istore 4, 2) := by decide +kernel
theorem dX7_paged_38 : decode cX7_paged 38 = .ok (.iload 4, 2) := by decide +kernel
theorem dX7_paged_40 : decode cX7_paged 40 = .ok (.aload_n 0, 1) := by decide +kernel
theorem dX7_paged_41 : decode cX7_paged 41 = .ok (.getfield 17, 3) := by decide +kernel
theorem dX7_paged_44 : decode cX7_paged 44 = .ok (.iload_n 1, 1) := by decide +kernel
theorem dX7_paged_45 : decode cX7_paged 45 = .ok (.aaload, 1) := by decide +kernel
theorem dX7_paged_46 : decode cX7_paged 46 = .ok (.iconst 1, 1) := by decide +kernel
theorem dX7_paged_47 : decode cX7_paged 47 = .ok (.iaload, 1) := by decide +kernel
theorem dX7_paged_48 : decode cX7_paged 48 = .ok (.if_icmp .ge 107, 3) := by decide +kernel
theorem dX7_paged_51 : decode cX7_paged 51 = .ok (.aload_n 0, 1) := by decide +kernel
theorem dX7_paged_52 : decode cX7_paged 52 = .ok (.getfield 14, 3) := by decide +kernel
theorem dX7_paged_55 : decode cX7_paged 55 = .ok (.iload_n 1, 1) := by decide +kernel
theorem dX7_paged_56 : decode cX7_paged 56 = .ok (.aaload, 1) := by decide +kernel
theorem dX7_paged_57 : decode cX7_paged 57 = .ok (.iconst 4, 1) := by decide +kernel
theorem dX7_paged_58 : decode cX7_paged 58 = .ok (.iload 4, 2) := by decide +kernel
theorem dX7_paged_60 : decode cX7_paged 60 = .ok (.imul, 1) := by decide +kernel
theorem dX7_paged_61 : decode cX7_paged 61 = .ok (.iconst 0, 1) := by decide +kernel
theorem dX7_paged_62 : decode cX7_paged 62 = .ok (.iadd, 1) := by decide +kernel
theorem dX7_paged_63 : decode cX7_paged 63 = .ok (.iaload, 1) := by decide +kernel
theorem dX7_paged_64 : decode cX7_paged 64 = .ok (.istore 5, 2) := by decide +kernel
theorem dX7_paged_66 : decode cX7_paged 66 = .ok (.aload_n 0, 1) := by decide +kernel
theorem dX7_paged_67 : decode cX7_paged 67 = .ok (.getfield 14, 3) := by decide +kernel
theorem dX7_paged_70 : decode cX7_paged 70 = .ok (.iload_n 1, 1) := by decide +kernel
theorem dX7_paged_71 : decode cX7_paged 71 = .ok (.aaload, 1) := by decide +kernel
theorem dX7_paged_72 : decode cX7_paged 72 = .ok (.iconst 4, 1) := by decide +kernel
theorem dX7_paged_73 : decode cX7_paged 73 = .ok (.iload 4, 2) := by decide +kernel
theorem dX7_paged_75 : decode cX7_paged 75 = .ok (.imul, 1) := by decide +kernel
theorem dX7_paged_76 : decode cX7_paged 76 = .ok (.iconst 1, 1) := by decide +kernel
theorem dX7_paged_77 : decode cX7_paged 77 = .ok (.iadd, 1) := by decide +kernel
theorem dX7_paged_78 : decode cX7_paged 78 = .ok (.iaload, 1) := by decide +kernel
theorem dX7_paged_79 : decode cX7_paged 79 = .ok (.istore 6, 2) := by decide +kernel
theorem dX7_paged_81 : decode cX7_paged 81 = .ok (.iload 5, 2) := by decide +kernel
theorem dX7_paged_83 : decode cX7_paged 83 = .ok (.iconst 1, 1) := by decide +kernel
theorem dX7_paged_84 : decode cX7_paged 84 = .ok (.if_icmp .ne 41, 3) := by decide +kernel
theorem dX7_paged_87 : decode cX7_paged 87 = .ok (.aload_n 2, 1) := by decide +kernel
theorem dX7_paged_88 : decode cX7_paged 88 = .ok (.iload 6, 2) := by decide +kernel
theorem dX7_paged_90 : decode cX7_paged 90 = .ok (.aload_n 2, 1) := by decide +kernel
theorem dX7_paged_91 : decode cX7_paged 91 = .ok (.iload 6, 2) := by decide +kernel
theorem dX7_paged_93 : decode cX7_paged 93 = .ok (.iconst 1, 1) := by decide +kernel
theorem dX7_paged_94 : decode cX7_paged 94 = .ok (.iadd, 1) := by decide +kernel
theorem dX7_paged_95 : decode cX7_paged 95 = .ok (.iload_n 3, 1) := by decide +kernel
theorem dX7_paged_96 : decode cX7_paged 96 = .ok (.iload 6, 2) := by decide +kernel
theorem dX7_paged_98 : decode cX7_paged 98 = .ok (.isub, 1) := by decide +kernel
theorem dX7_paged_99 : decode cX7_paged 99 = .ok (.invokestatic 51, 3) := by decide +kernel
theorem dX7_paged_102 : decode cX7_paged 102 = .ok (.aload_n 2, 1) := by decide +kernel
theorem dX7_paged_103 : decode cX7_paged 103 = .ok (.iload 6, 2) := by decide +kernel
theorem dX7_paged_105 : decode cX7_paged 105 = .ok (.aload_n 0, 1) := by decide +kernel
theorem dX7_paged_106 : decode cX7_paged 106 = .ok (.getfield 14, 3) := by decide +kernel
theorem dX7_paged_109 : decode cX7_paged 109 = .ok (.iload_n 1, 1) := by decide +kernel
theorem dX7_paged_110 : decode cX7_paged 110 = .ok (.aaload, 1) := by decide +kernel
theorem dX7_paged_111 : decode cX7_paged 111 = .ok (.iconst 4, 1) := by decide +kernel
theorem dX7_paged_112 : decode cX7_paged 112 = .ok (.iload 4, 2) := by decide +kernel
theorem dX7_paged_114 : decode cX7_paged 114 = .ok (.imul, 1) := by decide +kernel
theorem dX7_paged_115 : decode cX7_paged 115 = .ok (.iconst 3, 1) := by decide +kernel
theorem dX7_paged_116 : decode cX7_paged 116 = .ok (.iadd, 1) := by decide +kernel
theorem dX7_paged_117 : decode cX7_paged 117 = .ok (.iaload, 1) := by decide +kernel
theorem dX7_paged_118 : decode cX7_paged 118 = .ok (.iastore, 1) := by decide +kernel
theorem dX7_paged_119 : decode cX7_paged 119 = .ok (.iinc 3 1, 3) := by decide +kernel
theorem dX7_paged_122 : decode cX7_paged 122 = .ok (.goto 27, 3) := by decide +kernel
theorem dX7_paged_125 : decode cX7_paged 125 = .ok (.iload 5, 2) := by decide +kernel
theorem dX7_paged_127 : decode cX7_paged 127 = .ok (.iconst 2, 1) := by decide +kernel
theorem dX7_paged_128 : decode cX7_paged 128 = .ok (.if_icmp .ne 21, 3) := by decide +kernel
theorem dX7_paged_131 : decode cX7_paged 131 = .ok (.iinc 3 (-1), 3) := by decide +kernel
theorem dX7_paged_134 : decode cX7_paged 134 = .ok (.aload_n 2, 1) := by decide +kernel
theorem dX7_paged_135 : decode cX7_paged 135 = .ok (.iload 6, 2) := by decide +kernel
theorem dX7_paged_137 : decode cX7_paged 137 = .ok (.iconst 1, 1) := by decide +kernel
theorem dX7_paged_138 : decode cX7_paged 138 = .ok (.iadd, 1) := by decide +kernel
theorem dX7_paged_139 : decode cX7_paged 139 = .ok (.aload_n 2, 1) := by decide +kernel
theorem dX7_paged_140 : decode cX7_paged 140 = .ok (.iload 6, 2) := by decide +kernel
theorem dX7_paged_142 : decode cX7_paged 142 = .ok (.iload_n 3, 1) := by decide +kernel
theorem dX7_paged_143 : decode cX7_paged 143 = .ok (.iload 6, 2) := by decide +kernel
theorem dX7_paged_145 : decode cX7_paged 145 = .ok (.isub, 1) := by decide +kernel
theorem dX7_paged_146 : decode cX7_paged 146 = .ok (.invokestatic 51, 3) := by decide +kernel
theorem dX7_paged_149 : decode cX7_paged 149 = .ok (.iinc 4 1, 3) := by decide +kernel
theorem dX7_paged_152 : decode cX7_paged 152 = .ok (.goto (-114), 3) := by decide +kernel
theorem dX7_paged_155 : decode cX7_paged 155 = .ok (.aload_n 2, 1) := by decide +kernel
theorem dX7_paged_156 : decode cX7_paged 156 = .ok (.sipush 128, 3) := by decide +kernel
theorem dX7_paged_159 : decode cX7_paged 159 = .ok (.iload_n 3, 1) := by decide +kernel
theorem dX7_paged_160 : decode cX7_paged 160 = .ok (.iastore, 1) := by decide +kernel
theorem dX7_paged_161 : decode cX7_paged 161 = .ok (.aload_n 2, 1) := by decide +kernel
theorem dX7_paged_162 : decode cX7_paged 162 = .ok (.areturn, 1) := by decide +kernel
theorem dX7_counted_0 : decode cX7_counted 0 = .ok (.iload_n 1, 1) := by decide +kernel
theorem dX7_counted_1 : decode cX7_counted 1 = .ok (.tableswitch 131 0 5 #[39, 44, 62, 72, 108, 113], 39) := by decide +kernel
theorem dX7_counted_40 : decode cX7_counted 40 = .ok (.aload_n 0, 1) := by decide +kernel
theorem dX7_counted_41 : decode cX7_counted 41 = .ok (.getfield 40, 3) := by decide +kernel
theorem dX7_counted_44 : decode cX7_counted 44 = .ok (.ireturn, 1) := by decide +kernel
theorem dX7_counted_45 : decode cX7_counted 45 = .ok (.aload_n 0, 1) := by decide +kernel
theorem dX7_counted_46 : decode cX7_counted 46 = .ok (.getfield 17, 3) := by decide +kernel
theorem dX7_counted_49 : decode cX7_counted 49 = .ok (.iconst 0, 1) := by decide +kernel
theorem dX7_counted_50 : decode cX7_counted 50 = .ok (.aaload, 1) := by decide +kernel
theorem dX7_counted_51 : decode cX7_counted 51 = .ok (.iconst 1, 1) := by decide +kernel
theorem dX7_counted_52 : decode cX7_counted 52 = .ok (.iaload, 1) := by decide +kernel
theorem dX7_counted_53 : decode cX7_counted 53 = .ok (.aload_n 0, 1) := by decide +kernel
theorem dX7_counted_54 : decode cX7_counted 54 = .ok (.getfield 17, 3) := by decide +kernel
theorem dX7_counted_57 : decode cX7_counted 57 = .ok (.iconst 1, 1) := by decide +kernel
theorem dX7_counted_58 : decode cX7_counted 58 = .ok (.aaload, 1) := by decide +kernel
theorem dX7_counted_59 : decode cX7_counted 59 = .ok (.iconst 1, 1) := by decide +kernel
theorem dX7_counted_60 : decode cX7_counted 60 = .ok (.iaload, 1) := by decide +kernel
theorem dX7_counted_61 : decode cX7_counted 61 = .ok (.iadd, 1) := by decide +kernel
theorem dX7_counted_62 : decode cX7_counted 62 = .ok (.ireturn, 1) := by decide +kernel
theorem dX7_counted_63 : decode cX7_counted 63 = .ok (.aload_n 0, 1) := by decide +kernel
theorem dX7_counted_64 : decode cX7_counted 64 = .ok (.iconst 0, 1) := by decide +kernel
theorem dX7_counted_65 : decode cX7_counted 65 = .ok (.invokevirtual 117, 3) := by decide +kernel
theorem dX7_counted_68 : decode cX7_counted 68 = .ok (.sipush 128, 3) := by decide +kernel
theorem dX7_counted_71 : decode cX7_counted 71 = .ok (.iaload, 1) := by decide +kernel
theorem dX7_counted_72 : decode cX7_counted 72 = .ok (.ireturn, 1) := by decide +kernel
theorem dX7_counted_73 : decode cX7_counted 73 = .ok (.iconst 0, 1) := by decide +kernel
theorem dX7_counted_74 : decode cX7_counted 74 = .ok (.istore_n 2, 1) := by decide +kernel
theorem dX7_counted_75 : decode cX7_counted 75 = .ok (.iconst 0, 1) := by decide +kernel
theorem dX7_counted_76 : decode cX7_counted 76 = .ok (.istore_n 3, 1) := by decide +kernel
theorem dX7_counted_77 : decode cX7_counted 77 = .ok (.iload_n 3, 1) := by decide +kernel
theorem dX7_counted_78 : decode cX7_counted 78 = .ok (.aload_n 0, 1) := by decide +kernel
theorem dX7_counted_79 : decode cX7_counted 79 = .ok (.invokevirtual 121, 3) := by decide +kernel
theorem dX7_counted_82 : decode cX7_counted 82 = .ok (.if_icmp .ge 25, 3) := by decide +kernel
theorem dX7_counted_85 : decode cX7_counted 85 = .ok (.iload_n 2, 1) := by decide +kernel
theorem dX7_counted_86 : decode cX7_counted 86 = .ok (.aload_n 0, 1) := by decide +kernel
theorem dX7_counted_87 : decode cX7_counted 87 = .ok (.iload_n 3, 1) := by decide +kernel
theorem dX7_counted_88 : decode cX7_counted 88 = .ok (.invokevirtual 125, 3) := by decide +kernel
theorem dX7_counted_91 : decode cX7_counted 91 = .ok (.ifCond .eq 7, 3) := by decide +kernel
theorem dX7_counted_94 : decode cX7_counted 94 = .ok (.iconst 1, 1) := by decide +kernel
theorem dX7_counted_95 : decode cX7_counted 95 = .ok (.goto 4, 3) := by decide +kernel
theorem dX7_counted_98 : decode cX7_counted 98 = .ok (.iconst 0, 1) := by decide +kernel
theorem dX7_counted_99 : decode cX7_counted 99 = .ok (.iadd, 1) := by decide +kernel
theorem dX7_counted_100 : decode cX7_counted 100 = .ok (.istore_n 2, 1) := by decide +kernel
theorem dX7_counted_101 : decode cX7_counted 101 = .ok (.iinc 3 1, 3) := by decide +kernel
theorem dX7_counted_104 : decode cX7_counted 104 = .ok (.goto (-27), 3) := by decide +kernel
theorem dX7_counted_107 : decode cX7_counted 107 = .ok (.iload_n 2, 1) := by decide +kernel
theorem dX7_counted_108 : decode cX7_counted 108 = .ok (.ireturn, 1) := by decide +kernel
theorem dX7_counted_109 : decode cX7_counted 109 = .ok (.aload_n 0, 1) := by decide +kernel
theorem dX7_counted_110 : decode cX7_counted 110 = .ok (.getfield 65, 3) := by decide +kernel
theorem dX7_counted_113 : decode cX7_counted 113 = .ok (.ireturn, 1) := by decide +kernel
theorem dX7_counted_114 : decode cX7_counted 114 = .ok (.aload_n 0, 1) := by decide +kernel
theorem dX7_counted_115 : decode cX7_counted 115 = .ok (.getfield 17, 3) := by decide +kernel
theorem dX7_counted_118 : decode cX7_counted 118 = .ok (.iconst 0, 1) := by decide +kernel
theorem dX7_counted_119 : decode cX7_counted 119 = .ok (.aaload, 1) := by decide +kernel
theorem dX7_counted_120 : decode cX7_counted 120 = .ok (.iconst 2, 1) := by decide +kernel
theorem dX7_counted_121 : decode cX7_counted 121 = .ok (.iaload, 1) := by decide +kernel
theorem dX7_counted_122 : decode cX7_counted 122 = .ok (.aload_n 0, 1) := by decide +kernel
theorem dX7_counted_123 : decode cX7_counted 123 = .ok (.getfield 17, 3) := by decide +kernel
theorem dX7_counted_126 : decode cX7_counted 126 = .ok (.iconst 1, 1) := by decide +kernel
theorem dX7_counted_127 : decode cX7_counted 127 = .ok (.aaload, 1) := by decide +kernel
theorem dX7_counted_128 : decode cX7_counted 128 = .ok (.iconst 2, 1) := by decide +kernel
theorem dX7_counted_129 : decode cX7_counted 129 = .ok (.iaload, 1) := by decide +kernel
theorem dX7_counted_130 : decode cX7_counted 130 = .ok (.iadd, 1) := by decide +kernel
theorem dX7_counted_131 : decode cX7_counted 131 = .ok (.ireturn, 1) := by decide +kernel
theorem dX7_counted_132 : decode cX7_counted 132 = .ok (.aload_n 0, 1) := by decide +kernel
theorem dX7_counted_133 : decode cX7_counted 133 = .ok (.getfield 17, 3) := by decide +kernel
theorem dX7_counted_136 : decode cX7_counted 136 = .ok (.iconst 0, 1) := by decide +kernel
theorem dX7_counted_137 : decode cX7_counted 137 = .ok (.aaload, 1) := by decide +kernel
theorem dX7_counted_138 : decode cX7_counted 138 = .ok (.iconst 3, 1) := by decide +kernel
theorem dX7_counted_139 : decode cX7_counted 139 = .ok (.iaload, 1) := by decide +kernel
theorem dX7_counted_140 : decode cX7_counted 140 = .ok (.aload_n 0, 1) := by decide +kernel
theorem dX7_counted_141 : decode cX7_counted 141 = .ok (.getfield 17, 3) := by decide +kernel
theorem dX7_counted_144 : decode cX7_counted 144 = .ok (.iconst 1, 1) := by decide +kernel
theorem dX7_counted_145 : decode cX7_counted 145 = .ok (.aaload, 1) := by decide +kernel
theorem dX7_counted_146 : decode cX7_counted 146 = .ok (.iconst 3, 1) := by decide +kernel
theorem dX7_counted_147 : decode cX7_counted 147 = .ok (.iaload, 1) := by decide +kernel
theorem dX7_counted_148 : decode cX7_counted 148 = .ok (.iadd, 1) := by decide +kernel
theorem dX7_counted_149 : decode cX7_counted 149 = .ok (.ireturn, 1) := by decide +kernel
theorem dX7_count_0 : decode cX7_count 0 = .ok (.aload_n 0, 1) := by decide +kernel
theorem dX7_count_1 : decode cX7_count 1 = .ok (.iconst 0, 1) := by decide +kernel
theorem dX7_count_2 : decode cX7_count 2 = .ok (.putfield 25, 3) := by decide +kernel
theorem dX7_count_5 : decode cX7_count 5 = .ok (.iload_n 1, 1) := by decide +kernel
theorem dX7_count_6 : decode cX7_count 6 = .ok (.iconst 0, 1) := by decide +kernel
theorem dX7_count_7 : decode cX7_count 7 = .ok (.bipush 6, 2) := by decide +kernel
theorem dX7_count_9 : decode cX7_count 9 = .ok (.invokestatic 29, 3) := by decide +kernel
theorem dX7_count_12 : decode cX7_count 12 = .ok (.ifCond .eq 11, 3) := by decide +kernel
theorem dX7_count_15 : decode cX7_count 15 = .ok (.aload_n 0, 1) := by decide +kernel
theorem dX7_count_16 : decode cX7_count 16 = .ok (.iload_n 1, 1) := by decide +kernel
theorem dX7_count_17 : decode cX7_count 17 = .ok (.invokevirtual 128, 3) := by decide +kernel
theorem dX7_count_20 : decode cX7_count 20 = .ok (.goto 8, 3) := by decide +kernel
theorem dX7_count_23 : decode cX7_count 23 = .ok (.aload_n 0, 1) := by decide +kernel
theorem dX7_count_24 : decode cX7_count 24 = .ok (.iconst 1, 1) := by decide +kernel
theorem dX7_count_25 : decode cX7_count 25 = .ok (.invokevirtual 72, 3) := by decide +kernel
theorem dX7_count_28 : decode cX7_count 28 = .ok (.ireturn, 1) := by decide +kernel
theorem dX7_first_0 : decode cX7_first 0 = .ok (.aload_n 0, 1) := by decide +kernel
theorem dX7_first_1 : decode cX7_first 1 = .ok (.iconst 0, 1) := by decide +kernel
theorem dX7_first_2 : decode cX7_first 2 = .ok (.putfield 25, 3) := by decide +kernel
theorem dX7_first_5 : decode cX7_first 5 = .ok (.iconst 0, 1) := by decide +kernel
theorem dX7_first_6 : decode cX7_first 6 = .ok (.istore_n 1, 1) := by decide +kernel
theorem dX7_first_7 : decode cX7_first 7 = .ok (.iload_n 1, 1) := by decide +kernel
theorem dX7_first_8 : decode cX7_first 8 = .ok (.aload_n 0, 1) := by decide +kernel
theorem dX7_first_9 : decode cX7_first 9 = .ok (.invokevirtual 121, 3) := by decide +kernel
theorem dX7_first_12 : decode cX7_first 12 = .ok (.if_icmp .ge 19, 3) := by decide +kernel
theorem dX7_first_15 : decode cX7_first 15 = .ok (.aload_n 0, 1) := by decide +kernel
theorem dX7_first_16 : decode cX7_first 16 = .ok (.iload_n 1, 1) := by decide +kernel
theorem dX7_first_17 : decode cX7_first 17 = .ok (.invokevirtual 125, 3) := by decide +kernel
theorem dX7_first_20 : decode cX7_first 20 = .ok (.ifCond .eq 5, 3) := by decide +kernel
theorem dX7_first_23 : decode cX7_first 23 = .ok (.iload_n 1, 1) := by decide +kernel
theorem dX7_first_24 : decode cX7_first 24 = .ok (.ireturn, 1) := by decide +kernel
theorem dX7_first_25 : decode cX7_first 25 = .ok (.iinc 1 1, 3) := by decide +kernel
theorem dX7_first_28 : decode cX7_first 28 = .ok (.goto (-21), 3) := by decide +kernel
theorem dX7_first_31 : decode cX7_first 31 = .ok (.iconst (-1), 1) := by decide +kernel
theorem dX7_first_32 : decode cX7_first 32 = .ok (.ireturn, 1) := by decide +kernel
theorem dX7_page_0 : decode cX7_page 0 = .ok (.aload_n 0, 1) := by decide +kernel
theorem dX7_page_1 : decode cX7_page 1 = .ok (.iconst 0, 1) := by decide +kernel
theorem dX7_page_2 : decode cX7_page 2 = .ok (.putfield 25, 3) := by decide +kernel
theorem dX7_page_5 : decode cX7_page 5 = .ok (.aload_n 0, 1) := by decide +kernel
theorem dX7_page_6 : decode cX7_page 6 = .ok (.iconst 0, 1) := by decide +kernel
theorem dX7_page_7 : decode cX7_page 7 = .ok (.invokevirtual 117, 3) := by decide +kernel
theorem dX7_page_10 : decode cX7_page 10 = .ok (.astore_n 2, 1) := by decide +kernel
theorem dX7_page_11 : decode cX7_page 11 = .ok (.iload_n 1, 1) := by decide +kernel
theorem dX7_page_12 : decode cX7_page 12 = .ok (.iconst 0, 1) := by decide +kernel
theorem dX7_page_13 : decode cX7_page 13 = .ok (.aload_n 2, 1) := by decide +kernel
theorem dX7_page_14 : decode cX7_page 14 = .ok (.sipush 128, 3) := by decide +kernel
theorem dX7_page_17 : decode cX7_page 17 = .ok (.iaload, 1) := by decide +kernel
theorem dX7_page_18 : decode cX7_page 18 = .ok (.iconst 1, 1) := by decide +kernel
theorem dX7_page_19 : decode cX7_page 19 = .ok (.isub, 1) := by decide +kernel
theorem dX7_page_20 : decode cX7_page 20 = .ok (.invokestatic 29, 3) := by decide +kernel
theorem dX7_page_23 : decode cX7_page 23 = .ok (.ifCond .eq 12, 3) := by decide +kernel
theorem dX7_page_26 : decode cX7_page 26 = .ok (.aload_n 2, 1) := by decide +kernel
theorem dX7_page_27 : decode cX7_page 27 = .ok (.iload_n 1, 1) := by decide +kernel
theorem dX7_page_28 : decode cX7_page 28 = .ok (.iaload, 1) := by decide +kernel
theorem dX7_page_29 : decode cX7_page 29 = .ok (.invokestatic 43, 3) := by decide +kernel
theorem dX7_page_32 : decode cX7_page 32 = .ok (.goto 8, 3) := by decide +kernel
theorem dX7_page_35 : decode cX7_page 35 = .ok (.aload_n 0, 1) := by decide +kernel
theorem dX7_page_36 : decode cX7_page 36 = .ok (.iconst 1, 1) := by decide +kernel
theorem dX7_page_37 : decode cX7_page 37 = .ok (.invokevirtual 72, 3) := by decide +kernel
theorem dX7_page_40 : decode cX7_page 40 = .ok (.ireturn, 1) := by decide +kernel
theorem dX7_placeOf_0 : decode cX7_placeOf 0 = .ok (.iconst 0, 1) := by decide +kernel
theorem dX7_placeOf_1 : decode cX7_placeOf 1 = .ok (.istore_n 2, 1) := by decide +kernel
theorem dX7_placeOf_2 : decode cX7_placeOf 2 = .ok (.iload_n 2, 1) := by decide +kernel
theorem dX7_placeOf_3 : decode cX7_placeOf 3 = .ok (.aload_n 0, 1) := by decide +kernel
theorem dX7_placeOf_4 : decode cX7_placeOf 4 = .ok (.sipush 128, 3) := by decide +kernel
theorem dX7_placeOf_7 : decode cX7_placeOf 7 = .ok (.iaload, 1) := by decide +kernel
theorem dX7_placeOf_8 : decode cX7_placeOf 8 = .ok (.if_icmp .ge 18, 3) := by decide +kernel
theorem dX7_placeOf_11 : decode cX7_placeOf 11 = .ok (.aload_n 0, 1) := by decide +kernel
theorem dX7_placeOf_12 : decode cX7_placeOf 12 = .ok (.iload_n 2, 1) := by decide +kernel
theorem dX7_placeOf_13 : decode cX7_placeOf 13 = .ok (.iaload, 1) := by decide +kernel
theorem dX7_placeOf_14 : decode cX7_placeOf 14 = .ok (.iload_n 1, 1) := by decide +kernel
theorem dX7_placeOf_15 : decode cX7_placeOf 15 = .ok (.if_icmp .ne 5, 3) := by decide +kernel
theorem dX7_placeOf_18 : decode cX7_placeOf 18 = .ok (.iload_n 2, 1) := by decide +kernel
theorem dX7_placeOf_19 : decode cX7_placeOf 19 = .ok (.ireturn, 1) := by decide +kernel
theorem dX7_placeOf_20 : decode cX7_placeOf 20 = .ok (.iinc 2 1, 3) := by decide +kernel
theorem dX7_placeOf_23 : decode cX7_placeOf 23 = .ok (.goto (-21), 3) := by decide +kernel
theorem dX7_placeOf_26 : decode cX7_placeOf 26 = .ok (.iconst (-1), 1) := by decide +kernel
theorem dX7_placeOf_27 : decode cX7_placeOf 27 = .ok (.ireturn, 1) := by decide +kernel
theorem dX7_goes_0 : decode cX7_goes 0 = .ok (.aload_n 0, 1) := by decide +kernel
theorem dX7_goes_1 : decode cX7_goes 1 = .ok (.iconst 0, 1) := by decide +kernel
theorem dX7_goes_2 : decode cX7_goes 2 = .ok (.putfield 25, 3) := by decide +kernel
theorem dX7_goes_5 : decode cX7_goes 5 = .ok (.aload_n 0, 1) := by decide +kernel
theorem dX7_goes_6 : decode cX7_goes 6 = .ok (.iload_n 1, 1) := by decide +kernel
theorem dX7_goes_7 : decode cX7_goes 7 = .ok (.iload_n 2, 1) := by decide +kernel
theorem dX7_goes_8 : decode cX7_goes 8 = .ok (.invokevirtual 90, 3) := by decide +kernel
theorem dX7_goes_11 : decode cX7_goes 11 = .ok (.ifCond .eq 22, 3) := by decide +kernel
theorem dX7_goes_14 : decode cX7_goes 14 = .ok (.aload_n 0, 1) := by decide +kernel
theorem dX7_goes_15 : decode cX7_goes 15 = .ok (.iload_n 1, 1) := by decide +kernel
theorem dX7_goes_16 : decode cX7_goes 16 = .ok (.invokevirtual 117, 3) := by decide +kernel
theorem dX7_goes_19 : decode cX7_goes 19 = .ok (.aload_n 0, 1) := by decide +kernel
theorem dX7_goes_20 : decode cX7_goes 20 = .ok (.getfield 11, 3) := by decide +kernel
theorem dX7_goes_23 : decode cX7_goes 23 = .ok (.iload_n 1, 1) := by decide +kernel
theorem dX7_goes_24 : decode cX7_goes 24 = .ok (.aaload, 1) := by decide +kernel
theorem dX7_goes_25 : decode cX7_goes 25 = .ok (.iload_n 2, 1) := by decide +kernel
theorem dX7_goes_26 : decode cX7_goes 26 = .ok (.iaload, 1) := by decide +kernel
theorem dX7_goes_27 : decode cX7_goes 27 = .ok (.invokestatic 131, 3) := by decide +kernel
theorem dX7_goes_30 : decode cX7_goes 30 = .ok (.goto 8, 3) := by decide +kernel
theorem dX7_goes_33 : decode cX7_goes 33 = .ok (.aload_n 0, 1) := by decide +kernel
theorem dX7_goes_34 : decode cX7_goes 34 = .ok (.iconst 1, 1) := by decide +kernel
theorem dX7_goes_35 : decode cX7_goes 35 = .ok (.invokevirtual 72, 3) := by decide +kernel
theorem dX7_goes_38 : decode cX7_goes 38 = .ok (.ireturn, 1) := by decide +kernel
