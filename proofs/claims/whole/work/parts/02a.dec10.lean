theorem dX7_undo_0 : decode cX7_undo 0 = .ok (.aload_n 0, 1) := by decide +kernel
theorem dX7_undo_1 : decode cX7_undo 1 = .ok (.iconst 0, 1) := by decide +kernel
theorem dX7_undo_2 : decode cX7_undo 2 = .ok (.putfield 25, 3) := by decide +kernel
theorem dX7_undo_5 : decode cX7_undo 5 = .ok (.iload_n 1, 1) := by decide +kernel
theorem dX7_undo_6 : decode cX7_undo 6 = .ok (.invokestatic 33, 3) := by decide +kernel
theorem dX7_undo_9 : decode cX7_undo 9 = .ok (.ifCond .ne 9, 3) := by decide +kernel
theorem dX7_undo_12 : decode cX7_undo 12 = .ok (.aload_n 0, 1) := by decide +kernel
theorem dX7_undo_13 : decode cX7_undo 13 = .ok (.iconst 1, 1) := by decide +kernel
theorem dX7_undo_14 : decode cX7_undo 14 = .ok (.invokevirtual 72, 3) := by decide +kernel
theorem dX7_undo_17 : decode cX7_undo 17 = .ok (.ireturn, 1) := by decide +kernel
theorem dX7_undo_18 : decode cX7_undo 18 = .ok (.aload_n 0, 1) := by decide +kernel
theorem dX7_undo_19 : decode cX7_undo 19 = .ok (.getfield 17, 3) := by decide +kernel
theorem dX7_undo_22 : decode cX7_undo 22 = .ok (.iload_n 1, 1) := by decide +kernel
theorem dX7_undo_23 : decode cX7_undo 23 = .ok (.aaload, 1) := by decide +kernel
theorem dX7_undo_24 : decode cX7_undo 24 = .ok (.iconst 5, 1) := by decide +kernel
theorem dX7_undo_25 : decode cX7_undo 25 = .ok (.iaload, 1) := by decide +kernel
theorem dX7_undo_26 : decode cX7_undo 26 = .ok (.ifCond .eq 31, 3) := by decide +kernel
theorem dX7_undo_29 : decode cX7_undo 29 = .ok (.aload_n 0, 1) := by decide +kernel
theorem dX7_undo_30 : decode cX7_undo 30 = .ok (.getfield 17, 3) := by decide +kernel
theorem dX7_undo_33 : decode cX7_undo 33 = .ok (.iload_n 1, 1) := by decide +kernel
theorem dX7_undo_34 : decode cX7_undo 34 = .ok (.aaload, 1) := by decide +kernel
theorem dX7_undo_35 : decode cX7_undo 35 = .ok (.iconst 0, 1) := by decide +kernel
theorem dX7_undo_36 : decode cX7_undo 36 = .ok (.iaload, 1) := by decide +kernel
theorem dX7_undo_37 : decode cX7_undo 37 = .ok (.bipush 40, 2) := by decide +kernel
theorem dX7_undo_39 : decode cX7_undo 39 = .ok (.if_icmp .ge 18, 3) := by decide +kernel
theorem dX7_undo_42 : decode cX7_undo 42 = .ok (.aload_n 0, 1) := by decide +kernel
theorem dX7_undo_43 : decode cX7_undo 43 = .ok (.getfield 17, 3) := by decide +kernel
theorem dX7_undo_46 : decode cX7_undo 46 = .ok (.iconst 1, 1) := by decide +kernel
theorem dX7_undo_47 : decode cX7_undo 47 = .ok (.iload_n 1, 1) := by decide +kernel
theorem dX7_undo_48 : decode cX7_undo 48 = .ok (.isub, 1) := by decide +kernel
theorem dX7_undo_49 : decode cX7_undo 49 = .ok (.aaload, 1) := by decide +kernel
theorem dX7_undo_50 : decode cX7_undo 50 = .ok (.iconst 1, 1) := by decide +kernel
theorem dX7_undo_51 : decode cX7_undo 51 = .ok (.iaload, 1) := by decide +kernel
theorem dX7_undo_52 : decode cX7_undo 52 = .ok (.bipush 12, 2) := by decide +kernel
theorem dX7_undo_54 : decode cX7_undo 54 = .ok (.if_icmp .ne 9, 3) := by decide +kernel
theorem dX7_undo_57 : decode cX7_undo 57 = .ok (.aload_n 0, 1) := by decide +kernel
theorem dX7_undo_58 : decode cX7_undo 58 = .ok (.iconst 2, 1) := by decide +kernel
theorem dX7_undo_59 : decode cX7_undo 59 = .ok (.invokevirtual 72, 3) := by decide +kernel
theorem dX7_undo_62 : decode cX7_undo 62 = .ok (.ireturn, 1) := by decide +kernel
theorem dX7_undo_63 : decode cX7_undo 63 = .ok (.aload_n 0, 1) := by decide +kernel
theorem dX7_undo_64 : decode cX7_undo 64 = .ok (.iload_n 1, 1) := by decide +kernel
theorem dX7_undo_65 : decode cX7_undo 65 = .ok (.invokevirtual 96, 3) := by decide +kernel
theorem dX7_undo_68 : decode cX7_undo 68 = .ok (.istore_n 2, 1) := by decide +kernel
theorem dX7_undo_69 : decode cX7_undo 69 = .ok (.aload_n 0, 1) := by decide +kernel
theorem dX7_undo_70 : decode cX7_undo 70 = .ok (.getfield 17, 3) := by decide +kernel
theorem dX7_undo_73 : decode cX7_undo 73 = .ok (.iload_n 1, 1) := by decide +kernel
theorem dX7_undo_74 : decode cX7_undo 74 = .ok (.aaload, 1) := by decide +kernel
theorem dX7_undo_75 : decode cX7_undo 75 = .ok (.iconst 5, 1) := by decide +kernel
theorem dX7_undo_76 : decode cX7_undo 76 = .ok (.dup2, 1) := by decide +kernel
theorem dX7_undo_77 : decode cX7_undo 77 = .ok (.iaload, 1) := by decide +kernel
theorem dX7_undo_78 : decode cX7_undo 78 = .ok (.iconst 1, 1) := by decide +kernel
theorem dX7_undo_79 : decode cX7_undo 79 = .ok (.isub, 1) := by decide +kernel
theorem dX7_undo_80 : decode cX7_undo 80 = .ok (.iastore, 1) := by decide +kernel
theorem dX7_undo_81 : decode cX7_undo 81 = .ok (.iconst 3, 1) := by decide +kernel
theorem dX7_undo_82 : decode cX7_undo 82 = .ok (.aload_n 0, 1) := by decide +kernel
theorem dX7_undo_83 : decode cX7_undo 83 = .ok (.getfield 17, 3) := by decide +kernel
theorem dX7_undo_86 : decode cX7_undo 86 = .ok (.iload_n 1, 1) := by decide +kernel
theorem dX7_undo_87 : decode cX7_undo 87 = .ok (.aaload, 1) := by decide +kernel
theorem dX7_undo_88 : decode cX7_undo 88 = .ok (.iconst 5, 1) := by decide +kernel
theorem dX7_undo_89 : decode cX7_undo 89 = .ok (.iaload, 1) := by decide +kernel
theorem dX7_undo_90 : decode cX7_undo 90 = .ok (.imul, 1) := by decide +kernel
theorem dX7_undo_91 : decode cX7_undo 91 = .ok (.istore_n 3, 1) := by decide +kernel
theorem dX7_undo_92 : decode cX7_undo 92 = .ok (.aload_n 0, 1) := by decide +kernel
theorem dX7_undo_93 : decode cX7_undo 93 = .ok (.getfield 22, 3) := by decide +kernel
theorem dX7_undo_96 : decode cX7_undo 96 = .ok (.iload_n 1, 1) := by decide +kernel
theorem dX7_undo_97 : decode cX7_undo 97 = .ok (.aaload, 1) := by decide +kernel
theorem dX7_undo_98 : decode cX7_undo 98 = .ok (.iload_n 3, 1) := by decide +kernel
theorem dX7_undo_99 : decode cX7_undo 99 = .ok (.iconst 2, 1) := by decide +kernel
theorem dX7_undo_100 : decode cX7_undo 100 = .ok (.iadd, 1) := by decide +kernel
theorem dX7_undo_101 : decode cX7_undo 101 = .ok (.iaload, 1) := by decide +kernel
theorem dX7_undo_102 : decode cX7_undo 102 = .ok (.istore 4, 2) := by decide +kernel
theorem dX7_undo_104 : decode cX7_undo 104 = .ok (.aload_n 0, 1) := by decide +kernel
theorem dX7_undo_105 : decode cX7_undo 105 = .ok (.getfield 22, 3) := by decide +kernel
theorem dX7_undo_108 : decode cX7_undo 108 = .ok (.iload_n 1, 1) := by decide +kernel
theorem dX7_undo_109 : decode cX7_undo 109 = .ok (.aaload, 1) := by decide +kernel
theorem dX7_undo_110 : decode cX7_undo 110 = .ok (.iload_n 3, 1) := by decide +kernel
theorem dX7_undo_111 : decode cX7_undo 111 = .ok (.iaload, 1) := by decide +kernel
theorem dX7_undo_112 : decode cX7_undo 112 = .ok (.iconst 2, 1) := by decide +kernel
theorem dX7_undo_113 : decode cX7_undo 113 = .ok (.if_icmp .ne 39, 3) := by decide +kernel
theorem dX7_undo_116 : decode cX7_undo 116 = .ok (.aload_n 0, 1) := by decide +kernel
theorem dX7_undo_117 : decode cX7_undo 117 = .ok (.iload_n 1, 1) := by decide +kernel
theorem dX7_undo_118 : decode cX7_undo 118 = .ok (.iconst 4, 1) := by decide +kernel
theorem dX7_undo_119 : decode cX7_undo 119 = .ok (.newarray .int, 2) := by decide +kernel
theorem dX7_undo_121 : decode cX7_undo 121 = .ok (.dup, 1) := by decide +kernel
theorem dX7_undo_122 : decode cX7_undo 122 = .ok (.iconst 0, 1) := by decide +kernel
theorem dX7_undo_123 : decode cX7_undo 123 = .ok (.iconst 1, 1) := by decide +kernel
theorem dX7_undo_124 : decode cX7_undo 124 = .ok (.iastore, 1) := by decide +kernel
theorem dX7_undo_125 : decode cX7_undo 125 = .ok (.dup, 1) := by decide +kernel
theorem dX7_undo_126 : decode cX7_undo 126 = .ok (.iconst 1, 1) := by decide +kernel
theorem dX7_undo_127 : decode cX7_undo 127 = .ok (.iload_n 2, 1) := by decide +kernel
theorem dX7_undo_128 : decode cX7_undo 128 = .ok (.iastore, 1) := by decide +kernel
theorem dX7_undo_129 : decode cX7_undo 129 = .ok (.dup, 1) := by decide +kernel
theorem dX7_undo_130 : decode cX7_undo 130 = .ok (.iconst 2, 1) := by decide +kernel
theorem dX7_undo_131 : decode cX7_undo 131 = .ok (.iconst 0, 1) := by decide +kernel
theorem dX7_undo_132 : decode cX7_undo 132 = .ok (.iastore, 1) := by decide +kernel
theorem dX7_undo_133 : decode cX7_undo 133 = .ok (.dup, 1) := by decide +kernel
theorem dX7_undo_134 : decode cX7_undo 134 = .ok (.iconst 3, 1) := by decide +kernel
theorem dX7_undo_135 : decode cX7_undo 135 = .ok (.aload_n 0, 1) := by decide +kernel
theorem dX7_undo_136 : decode cX7_undo 136 = .ok (.iload_n 1, 1) := by decide +kernel
theorem dX7_undo_137 : decode cX7_undo 137 = .ok (.iload 4, 2) := by decide +kernel
theorem dX7_undo_139 : decode cX7_undo 139 = .ok (.invokestatic 43, 3) := by decide +kernel
theorem dX7_undo_142 : decode cX7_undo 142 = .ok (.invokevirtual 79, 3) := by decide +kernel
theorem dX7_undo_145 : decode cX7_undo 145 = .ok (.iastore, 1) := by decide +kernel
theorem dX7_undo_146 : decode cX7_undo 146 = .ok (.invokevirtual 83, 3) := by decide +kernel
theorem dX7_undo_149 : decode cX7_undo 149 = .ok (.goto 32, 3) := by decide +kernel
theorem dX7_undo_152 : decode cX7_undo 152 = .ok (.iload_n 2, 1) := by decide +kernel
theorem dX7_undo_153 : decode cX7_undo 153 = .ok (.iconst (-1), 1) := by decide +kernel
theorem dX7_undo_154 : decode cX7_undo 154 = .ok (.if_icmp .eq 27, 3) := by decide +kernel
theorem dX7_undo_157 : decode cX7_undo 157 = .ok (.aload_n 0, 1) := by decide +kernel
theorem dX7_undo_158 : decode cX7_undo 158 = .ok (.iload_n 1, 1) := by decide +kernel
theorem dX7_undo_159 : decode cX7_undo 159 = .ok (.iconst 4, 1) := by decide +kernel
theorem dX7_undo_160 : decode cX7_undo 160 = .ok (.newarray .int, 2) := by decide +kernel
theorem dX7_undo_162 : decode cX7_undo 162 = .ok (.dup, 1) := by decide +kernel
theorem dX7_undo_163 : decode cX7_undo 163 = .ok (.iconst 0, 1) := by decide +kernel
theorem dX7_undo_164 : decode cX7_undo 164 = .ok (.iconst 2, 1) := by decide +kernel
theorem dX7_undo_165 : decode cX7_undo 165 = .ok (.iastore, 1) := by decide +kernel
theorem dX7_undo_166 : decode cX7_undo 166 = .ok (.dup, 1) := by decide +kernel
theorem dX7_undo_167 : decode cX7_undo 167 = .ok (.iconst 1, 1) := by decide +kernel
theorem dX7_undo_168 : decode cX7_undo 168 = .ok (.iload_n 2, 1) := by decide +kernel
theorem dX7_undo_169 : decode cX7_undo 169 = .ok (.iastore, 1) := by decide +kernel
theorem dX7_undo_170 : decode cX7_undo 170 = .ok (.dup, 1) := by decide +kernel
theorem dX7_undo_171 : decode cX7_undo 171 = .ok (.iconst 2, 1) := by decide +kernel
theorem dX7_undo_172 : decode cX7_undo 172 = .ok (.iconst 0, 1) := by decide +kernel
theorem dX7_undo_173 : decode cX7_undo 173 = .ok (.iastore, 1) := by decide +kernel
theorem dX7_undo_174 : decode cX7_undo 174 = .ok (.dup, 1) := by decide +kernel
theorem dX7_undo_175 : decode cX7_undo 175 = .ok (.iconst 3, 1) := by decide +kernel
theorem dX7_undo_176 : decode cX7_undo 176 = .ok (.iconst 0, 1) := by decide +kernel
theorem dX7_undo_177 : decode cX7_undo 177 = .ok (.iastore, 1) := by decide +kernel
theorem dX7_undo_178 : decode cX7_undo 178 = .ok (.invokevirtual 83, 3) := by decide +kernel
theorem dX7_undo_181 : decode cX7_undo 181 = .ok (.iload_n 2, 1) := by decide +kernel
theorem dX7_undo_182 : decode cX7_undo 182 = .ok (.ireturn, 1) := by decide +kernel
theorem dX7_arrive_0 : decode cX7_arrive 0 = .ok (.aload_n 0, 1) := by decide +kernel
theorem dX7_arrive_1 : decode cX7_arrive 1 = .ok (.iload_n 1, 1) := by decide +kernel
theorem dX7_arrive_2 : decode cX7_arrive 2 = .ok (.iconst 0, 1) := by decide +kernel
theorem dX7_arrive_3 : decode cX7_arrive 3 = .ok (.invokevirtual 61, 3) := by decide +kernel
theorem dX7_arrive_6 : decode cX7_arrive 6 = .ok (.astore_n 2, 1) := by decide +kernel
theorem dX7_arrive_7 : decode cX7_arrive 7 = .ok (.aload_n 0, 1) := by decide +kernel
theorem dX7_arrive_8 : decode cX7_arrive 8 = .ok (.getfield 17, 3) := by decide +kernel
theorem dX7_arrive_11 : decode cX7_arrive 11 = .ok (.iload_n 1, 1) := by decide +kernel
theorem dX7_arrive_12 : decode cX7_arrive 12 = .ok (.aaload, 1) := by decide +kernel
theorem dX7_arrive_13 : decode cX7_arrive 13 = .ok (.iconst 1, 1) := by decide +kernel
theorem dX7_arrive_14 : decode cX7_arrive 14 = .ok (.dup2, 1) := by decide +kernel
theorem dX7_arrive_15 : decode cX7_arrive 15 = .ok (.iaload, 1) := by decide +kernel
theorem dX7_arrive_16 : decode cX7_arrive 16 = .ok (.iconst 1, 1) := by decide +kernel
theorem dX7_arrive_17 : decode cX7_arrive 17 = .ok (.isub, 1) := by decide +kernel
theorem dX7_arrive_18 : decode cX7_arrive 18 = .ok (.iastore, 1) := by decide +kernel
theorem dX7_arrive_19 : decode cX7_arrive 19 = .ok (.aload_n 0, 1) := by decide +kernel
theorem dX7_arrive_20 : decode cX7_arrive 20 = .ok (.getfield 14, 3) := by decide +kernel
theorem dX7_arrive_23 : decode cX7_arrive 23 = .ok (.iload_n 1, 1) := by decide +kernel
theorem dX7_arrive_24 : decode cX7_arrive 24 = .ok (.aaload, 1) := by decide +kernel
theorem dX7_arrive_25 : decode cX7_arrive 25 = .ok (.iconst 4, 1) := by decide +kernel
theorem dX7_arrive_26 : decode cX7_arrive 26 = .ok (.aload_n 0, 1) := by decide +kernel
theorem dX7_arrive_27 : decode cX7_arrive 27 = .ok (.getfield 14, 3) := by decide +kernel
theorem dX7_arrive_30 : decode cX7_arrive 30 = .ok (.iload_n 1, 1) := by decide +kernel
theorem dX7_arrive_31 : decode cX7_arrive 31 = .ok (.aaload, 1) := by decide +kernel
theorem dX7_arrive_32 : decode cX7_arrive 32 = .ok (.iconst 0, 1) := by decide +kernel
theorem dX7_arrive_33 : decode cX7_arrive 33 = .ok (.iconst 4, 1) := by decide +kernel
theorem dX7_arrive_34 : decode cX7_arrive 34 = .ok (.aload_n 0, 1) := by decide +kernel
theorem dX7_arrive_35 : decode cX7_arrive 35 = .ok (.getfield 17, 3) := by decide +kernel
theorem dX7_arrive_38 : decode cX7_arrive 38 = .ok (.iload_n 1, 1) := by decide +kernel
theorem dX7_arrive_39 : decode cX7_arrive 39 = .ok (.aaload, 1) := by decide +kernel
theorem dX7_arrive_40 : decode cX7_arrive 40 = .ok (.iconst 1, 1) := by decide +kernel
theorem dX7_arrive_41 : decode cX7_arrive 41 = .ok (.iaload, 1) := by decide +kernel
theorem dX7_arrive_42 : decode cX7_arrive 42 = .ok (.imul, 1) := by decide +kernel
theorem dX7_arrive_43 : decode cX7_arrive 43 = .ok (.invokestatic 51, 3) := by decide +kernel
theorem dX7_arrive_46 : decode cX7_arrive 46 = .ok (.aload_n 0, 1) := by decide +kernel
theorem dX7_arrive_47 : decode cX7_arrive 47 = .ok (.iload_n 1, 1) := by decide +kernel
theorem dX7_arrive_48 : decode cX7_arrive 48 = .ok (.aload_n 2, 1) := by decide +kernel
theorem dX7_arrive_49 : decode cX7_arrive 49 = .ok (.invokevirtual 57, 3) := by decide +kernel
theorem dX7_arrive_52 : decode cX7_arrive 52 = .ok (.aload_n 0, 1) := by decide +kernel
theorem dX7_arrive_53 : decode cX7_arrive 53 = .ok (.getfield 17, 3) := by decide +kernel
theorem dX7_arrive_56 : decode cX7_arrive 56 = .ok (.iload_n 1, 1) := by decide +kernel
theorem dX7_arrive_57 : decode cX7_arrive 57 = .ok (.aaload, 1) := by decide +kernel
theorem dX7_arrive_58 : decode cX7_arrive 58 = .ok (.iconst 3, 1) := by decide +kernel
theorem dX7_arrive_59 : decode cX7_arrive 59 = .ok (.dup2, 1) := by decide +kernel
theorem dX7_arrive_60 : decode cX7_arrive 60 = .ok (.iaload, 1) := by decide +kernel
theorem dX7_arrive_61 : decode cX7_arrive 61 = .ok (.iconst 1, 1) := by decide +kernel
theorem dX7_arrive_62 : decode cX7_arrive 62 = .ok (.iadd, 1) := by decide +kernel
theorem dX7_arrive_63 : decode cX7_arrive 63 = .ok (.iastore, 1) := by decide +kernel
theorem dX7_arrive_64 : decode cX7_arrive 64 = .ok (.aload_n 0, 1) := by decide +kernel
theorem dX7_arrive_65 : decode cX7_arrive 65 = .ok (.getfield 17, 3) := by decide +kernel
theorem dX7_arrive_68 : decode cX7_arrive 68 = .ok (.iload_n 1, 1) := by decide +kernel
theorem dX7_arrive_69 : decode cX7_arrive 69 = .ok (.aaload, 1) := by decide +kernel
theorem dX7_arrive_70 : decode cX7_arrive 70 = .ok (.iconst 4, 1) := by decide +kernel
theorem dX7_arrive_71 : decode cX7_arrive 71 = .ok (.dup2, 1) := by decide +kernel
theorem dX7_arrive_72 : decode cX7_arrive 72 = .ok (.iaload, 1) := by decide +kernel
theorem dX7_arrive_73 : decode cX7_arrive 73 = .ok (.aload_n 2, 1) := by decide +kernel
theorem dX7_arrive_74 : decode cX7_arrive 74 = .ok (.iconst 0, 1) := by decide +kernel
theorem dX7_arrive_75 : decode cX7_arrive 75 = .ok (.iaload, 1) := by decide +kernel
theorem dX7_arrive_76 : decode cX7_arrive 76 = .ok (.ifCond .ne 7, 3) := by decide +kernel
theorem dX7_arrive_79 : decode cX7_arrive 79 = .ok (.iconst 1, 1) := by decide +kernel
theorem dX7_arrive_80 : decode cX7_arrive 80 = .ok (.goto 4, 3) := by decide +kernel
theorem dX7_arrive_83 : decode cX7_arrive 83 = .ok (.iconst 0, 1) := by decide +kernel
theorem dX7_arrive_84 : decode cX7_arrive 84 = .ok (.iadd, 1) := by decide +kernel
theorem dX7_arrive_85 : decode cX7_arrive 85 = .ok (.iastore, 1) := by decide +kernel
theorem dX7_arrive_86 : decode cX7_arrive 86 = .ok (.aload_n 2, 1) := by decide +kernel
theorem dX7_arrive_87 : decode cX7_arrive 87 = .ok (.iconst 0, 1) := by decide +kernel
theorem dX7_arrive_88 : decode cX7_arrive 88 = .ok (.iaload, 1) := by decide +kernel
theorem dX7_arrive_89 : decode cX7_arrive 89 = .ok (.ireturn, 1) := by decide +kernel
theorem dX7_come_0 : decode cX7_come 0 = .ok (.aload_n 0, 1) := by decide +kernel
theorem dX7_come_1 : decode cX7_come 1 = .ok (.iconst 0, 1) := by decide +kernel
theorem dX7_come_2 : decode cX7_come 2 = .ok (.putfield 25, 3) := by decide +kernel
theorem dX7_come_5 : decode cX7_come 5 = .ok (.iload_n 1, 1) := by decide +kernel
theorem dX7_come_6 : decode cX7_come 6 = .ok (.invokestatic 33, 3) := by decide +kernel
theorem dX7_come_9 : decode cX7_come 9 = .ok (.ifCond .ne 9, 3) := by decide +kernel
theorem dX7_come_12 : decode cX7_come 12 = .ok (.aload_n 0, 1) := by decide +kernel
theorem dX7_come_13 : decode cX7_come 13 = .ok (.iconst 1, 1) := by decide +kernel
theorem dX7_come_14 : decode cX7_come 14 = .ok (.invokevirtual 72, 3) := by decide +kernel
theorem dX7_come_17 : decode cX7_come 17 = .ok (.ireturn, 1) := by decide +kernel
theorem dX7_come_18 : decode cX7_come 18 = .ok (.aload_n 0, 1) := by decide +kernel
theorem dX7_come_19 : decode cX7_come 19 = .ok (.getfield 17, 3) := by decide +kernel
theorem dX7_come_22 : decode cX7_come 22 = .ok (.iload_n 1, 1) := by decide +kernel
theorem dX7_come_23 : decode cX7_come 23 = .ok (.aaload, 1) := by decide +kernel
theorem dX7_come_24 : decode cX7_come 24 = .ok (.iconst 1, 1) := by decide +kernel
theorem dX7_come_25 : decode cX7_come 25 = .ok (.iaload, 1) := by decide +kernel
theorem dX7_come_26 : decode cX7_come 26 = .ok (.ifCond .ne 11, 3) := by decide +kernel
theorem dX7_come_29 : decode cX7_come 29 = .ok (.aload_n 0, 1) := by decide +kernel
theorem dX7_come_30 : decode cX7_come 30 = .ok (.iconst 2, 1) := by decide +kernel
theorem dX7_come_31 : decode cX7_come 31 = .ok (.invokevirtual 72, 3) := by decide +kernel
theorem dX7_come_34 : decode cX7_come 34 = .ok (.goto 8, 3) := by decide +kernel
theorem dX7_come_37 : decode cX7_come 37 = .ok (.aload_n 0, 1) := by decide +kernel
theorem dX7_come_38 : decode cX7_come 38 = .ok (.iload_n 1, 1) := by decide +kernel
theorem dX7_come_39 : decode cX7_come 39 = .ok (.invokevirtual 99, 3) := by decide +kernel
theorem dX7_come_42 : decode cX7_come 42 = .ok (.ireturn, 1) := by decide +kernel
theorem dX7_meet_0 : decode cX7_meet 0 = .ok (.aload_n 0, 1) := by decide +kernel
theorem dX7_meet_1 : decode cX7_meet 1 = .ok (.iconst 0, 1) := by decide +kernel
theorem dX7_meet_2 : decode cX7_meet 2 = .ok (.putfield 25, 3) := by decide +kernel
theorem dX7_meet_5 : decode cX7_meet 5 = .ok (.iconst 0, 1) := by decide +kernel
theorem dX7_meet_6 : decode cX7_meet 6 = .ok (.istore_n 1, 1) := by decide +kernel
theorem dX7_meet_7 : decode cX7_meet 7 = .ok (.iconst 0, 1) := by decide +kernel
theorem dX7_meet_8 : decode cX7_meet 8 = .ok (.istore_n 2, 1) := by decide +kernel
theorem dX7_meet_9 : decode cX7_meet 9 = .ok (.iload_n 2, 1) := by decide +kernel
theorem dX7_meet_10 : decode cX7_meet 10 = .ok (.iconst 2, 1) := by decide +kernel
theorem dX7_meet_11 : decode cX7_meet 11 = .ok (.if_icmp .ge 32, 3) := by decide +kernel
theorem dX7_meet_14 : decode cX7_meet 14 = .ok (.aload_n 0, 1) := by decide +kernel
theorem dX7_meet_15 : decode cX7_meet 15 = .ok (.getfield 17, 3) := by decide +kernel
theorem dX7_meet_18 : decode cX7_meet 18 = .ok (.iload_n 2, 1) := by decide +kernel
theorem dX7_meet_19 : decode cX7_meet 19 = .ok (.aaload, 1) := by decide +kernel
theorem dX7_meet_20 : decode cX7_meet 20 = .ok (.iconst 1, 1) := by decide +kernel
theorem dX7_meet_21 : decode cX7_meet 21 = .ok (.iaload, 1) := by decide +kernel
theorem dX7_meet_22 : decode cX7_meet 22 = .ok (.ifCond .le 15, 3) := by decide +kernel
theorem dX7_meet_25 : decode cX7_meet 25 = .ok (.aload_n 0, 1) := by decide +kernel
theorem dX7_meet_26 : decode cX7_meet 26 = .ok (.iload_n 2, 1) := by decide +kernel
theorem dX7_meet_27 : decode cX7_meet 27 = .ok (.invokevirtual 99, 3) := by decide +kernel
theorem dX7_meet_30 : decode cX7_meet 30 = .ok (.pop, 1) := by decide +kernel
theorem dX7_meet_31 : decode cX7_meet 31 = .ok (.iinc 1 1, 3) := by decide +kernel
theorem dX7_meet_34 : decode cX7_meet 34 = .ok (.goto (-20), 3) := by decide +kernel
theorem dX7_meet_37 : decode cX7_meet 37 = .ok (.iinc 2 1, 3) := by decide +kernel
theorem dX7_meet_40 : decode cX7_meet 40 = .ok (.goto (-31), 3) := by decide +kernel
theorem dX7_meet_43 : decode cX7_meet 43 = .ok (.iload_n 1, 1) := by decide +kernel
theorem dX7_meet_44 : decode cX7_meet 44 = .ok (.ireturn, 1) := by decide +kernel
theorem dX7_letter_0 : decode cX7_letter 0 = .ok (.aload_n 0, 1) := by decide +kernel
theorem dX7_letter_1 : decode cX7_letter 1 = .ok (.iconst 0, 1) := by decide +kernel
theorem dX7_letter_2 : decode cX7_letter 2 = .ok (.putfield 25, 3) := by decide +kernel
theorem dX7_letter_5 : decode cX7_letter 5 = .ok (.aload_n 0, 1) := by decide +kernel
theorem dX7_letter_6 : decode cX7_letter 6 = .ok (.iload_n 1, 1) := by decide +kernel
theorem dX7_letter_7 : decode cX7_letter 7 = .ok (.iload_n 2, 1) := by decide +kernel
theorem dX7_letter_8 : decode cX7_letter 8 = .ok (.invokevirtual 90, 3) := by decide +kernel
theorem dX7_letter_11 : decode cX7_letter 11 = .ok (.ifCond .eq 17, 3) := by decide +kernel
theorem dX7_letter_14 : decode cX7_letter 14 = .ok (.aload_n 0, 1) := by decide +kernel
theorem dX7_letter_15 : decode cX7_letter 15 = .ok (.getfield 11, 3) := by decide +kernel
theorem dX7_letter_18 : decode cX7_letter 18 = .ok (.iload_n 1, 1) := by decide +kernel
theorem dX7_letter_19 : decode cX7_letter 19 = .ok (.aaload, 1) := by decide +kernel
theorem dX7_letter_20 : decode cX7_letter 20 = .ok (.iload_n 2, 1) := by decide +kernel
theorem dX7_letter_21 : decode cX7_letter 21 = .ok (.iaload, 1) := by decide +kernel
theorem dX7_letter_22 : decode cX7_letter 22 = .ok (.invokestatic 43, 3) := by decide +kernel
theorem dX7_letter_25 : decode cX7_letter 25 = .ok (.goto 8, 3) := by decide +kernel
theorem dX7_letter_28 : decode cX7_letter 28 = .ok (.aload_n 0, 1) := by decide +kernel
theorem dX7_letter_29 : decode cX7_letter 29 = .ok (.iconst 1, 1) := by decide +kernel
theorem dX7_letter_30 : decode cX7_letter 30 = .ok (.invokevirtual 72, 3) := by decide +kernel
theorem dX7_letter_33 : decode cX7_letter 33 = .ok (.ireturn, 1) := by decide +kernel
theorem dX7_author_0 : decode cX7_author 0 = .ok (.aload_n 0, 1) := by decide +kernel
theorem dX7_author_1 : decode cX7_author 1 = .ok (.iconst 0, 1) := by decide +kernel
theorem dX7_author_2 : decode cX7_author 2 = .ok (.putfield 25, 3) := by decide +kernel
theorem dX7_author_5 : decode cX7_author 5 = .ok (.aload_n 0, 1) := by decide +kernel
theorem dX7_author_6 : decode cX7_author 6 = .ok (.iload_n 1, 1) := by decide +kernel
theorem dX7_author_7 : decode cX7_author 7 = .ok (.iload_n 2, 1) := by decide +kernel
theorem dX7_author_8 : decode cX7_author 8 = .ok (.invokevirtual 90, 3) := by decide +kernel
theorem dX7_author_11 : decode cX7_author 11 = .ok (.ifCond .eq 17, 3) := by decide +kernel
theorem dX7_author_14 : decode cX7_author 14 = .ok (.aload_n 0, 1) := by decide +kernel
theorem dX7_author_15 : decode cX7_author 15 = .ok (.getfield 11, 3) := by decide +kernel
theorem dX7_author_18 : decode cX7_author 18 = .ok (.iload_n 1, 1) := by decide +kernel
theorem dX7_author_19 : decode cX7_author 19 = .ok (.aaload, 1) := by decide +kernel
theorem dX7_author_20 : decode cX7_author 20 = .ok (.iload_n 2, 1) := by decide +kernel
theorem dX7_author_21 : decode cX7_author 21 = .ok (.iaload, 1) := by decide +kernel
theorem dX7_author_22 : decode cX7_author 22 = .ok (.invokestatic 102, 3) := by decide +kernel
theorem dX7_author_25 : decode cX7_author 25 = .ok (.goto 8, 3) := by decide +kernel
theorem dX7_author_28 : decode cX7_author 28 = .ok (.aload_n 0, 1) := by decide +kernel
theorem dX7_author_29 : decode cX7_author 29 = .ok (.iconst 1, 1) := by decide +kernel
theorem dX7_author_30 : decode cX7_author 30 = .ok (.invokevirtual 72, 3) := by decide +kernel
theorem dX7_author_33 : decode cX7_author 33 = .ok (.ireturn, 1) := by decide +kernel
