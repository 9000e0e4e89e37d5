theorem dX7_write_0 : decode cX7_write 0 = .ok (.aload_n 0, 1) := by decide +kernel
theorem dX7_write_1 : decode cX7_write 1 = .ok (.iload_n 1, 1) := by decide +kernel
theorem dX7_write_2 : decode cX7_write 2 = .ok (.aload_n 2, 1) := by decide +kernel
theorem dX7_write_3 : decode cX7_write 3 = .ok (.invokevirtual 57, 3) := by decide +kernel
theorem dX7_write_6 : decode cX7_write 6 = .ok (.aload_n 2, 1) := by decide +kernel
theorem dX7_write_7 : decode cX7_write 7 = .ok (.astore_n 3, 1) := by decide +kernel
theorem dX7_write_8 : decode cX7_write 8 = .ok (.iconst 0, 1) := by decide +kernel
theorem dX7_write_9 : decode cX7_write 9 = .ok (.istore 4, 2) := by decide +kernel
theorem dX7_write_11 : decode cX7_write 11 = .ok (.iload 4, 2) := by decide +kernel
theorem dX7_write_13 : decode cX7_write 13 = .ok (.aload_n 0, 1) := by decide +kernel
theorem dX7_write_14 : decode cX7_write 14 = .ok (.getfield 17, 3) := by decide +kernel
theorem dX7_write_17 : decode cX7_write 17 = .ok (.iload_n 1, 1) := by decide +kernel
theorem dX7_write_18 : decode cX7_write 18 = .ok (.aaload, 1) := by decide +kernel
theorem dX7_write_19 : decode cX7_write 19 = .ok (.iconst 1, 1) := by decide +kernel
theorem dX7_write_20 : decode cX7_write 20 = .ok (.iaload, 1) := by decide +kernel
theorem dX7_write_21 : decode cX7_write 21 = .ok (.if_icmp .ge 91, 3) := by decide +kernel
theorem dX7_write_24 : decode cX7_write 24 = .ok (.aload_n 0, 1) := by decide +kernel
theorem dX7_write_25 : decode cX7_write 25 = .ok (.iload_n 1, 1) := by decide +kernel
theorem dX7_write_26 : decode cX7_write 26 = .ok (.iload 4, 2) := by decide +kernel
theorem dX7_write_28 : decode cX7_write 28 = .ok (.invokevirtual 61, 3) := by decide +kernel
theorem dX7_write_31 : decode cX7_write 31 = .ok (.astore 5, 2) := by decide +kernel
theorem dX7_write_33 : decode cX7_write 33 = .ok (.aload_n 0, 1) := by decide +kernel
theorem dX7_write_34 : decode cX7_write 34 = .ok (.dup, 1) := by decide +kernel
theorem dX7_write_35 : decode cX7_write 35 = .ok (.getfield 65, 3) := by decide +kernel
theorem dX7_write_38 : decode cX7_write 38 = .ok (.aload_n 3, 1) := by decide +kernel
theorem dX7_write_39 : decode cX7_write 39 = .ok (.iconst 0, 1) := by decide +kernel
theorem dX7_write_40 : decode cX7_write 40 = .ok (.iaload, 1) := by decide +kernel
theorem dX7_write_41 : decode cX7_write 41 = .ok (.iconst 1, 1) := by decide +kernel
theorem dX7_write_42 : decode cX7_write 42 = .ok (.if_icmp .ne 25, 3) := by decide +kernel
theorem dX7_write_45 : decode cX7_write 45 = .ok (.aload 5, 2) := by decide +kernel
theorem dX7_write_47 : decode cX7_write 47 = .ok (.iconst 0, 1) := by decide +kernel
theorem dX7_write_48 : decode cX7_write 48 = .ok (.iaload, 1) := by decide +kernel
theorem dX7_write_49 : decode cX7_write 49 = .ok (.iconst 1, 1) := by decide +kernel
theorem dX7_write_50 : decode cX7_write 50 = .ok (.if_icmp .ne 17, 3) := by decide +kernel
theorem dX7_write_53 : decode cX7_write 53 = .ok (.aload_n 3, 1) := by decide +kernel
theorem dX7_write_54 : decode cX7_write 54 = .ok (.iconst 1, 1) := by decide +kernel
theorem dX7_write_55 : decode cX7_write 55 = .ok (.iaload, 1) := by decide +kernel
theorem dX7_write_56 : decode cX7_write 56 = .ok (.aload 5, 2) := by decide +kernel
theorem dX7_write_58 : decode cX7_write 58 = .ok (.iconst 1, 1) := by decide +kernel
theorem dX7_write_59 : decode cX7_write 59 = .ok (.iaload, 1) := by decide +kernel
theorem dX7_write_60 : decode cX7_write 60 = .ok (.if_icmp .ne 7, 3) := by decide +kernel
theorem dX7_write_63 : decode cX7_write 63 = .ok (.iconst 1, 1) := by decide +kernel
theorem dX7_write_64 : decode cX7_write 64 = .ok (.goto 4, 3) := by decide +kernel
theorem dX7_write_67 : decode cX7_write 67 = .ok (.iconst 0, 1) := by decide +kernel
theorem dX7_write_68 : decode cX7_write 68 = .ok (.iadd, 1) := by decide +kernel
theorem dX7_write_69 : decode cX7_write 69 = .ok (.putfield 65, 3) := by decide +kernel
theorem dX7_write_72 : decode cX7_write 72 = .ok (.aload_n 0, 1) := by decide +kernel
theorem dX7_write_73 : decode cX7_write 73 = .ok (.aload 5, 2) := by decide +kernel
theorem dX7_write_75 : decode cX7_write 75 = .ok (.iconst 1, 1) := by decide +kernel
theorem dX7_write_76 : decode cX7_write 76 = .ok (.iload_n 1, 1) := by decide +kernel
theorem dX7_write_77 : decode cX7_write 77 = .ok (.isub, 1) := by decide +kernel
theorem dX7_write_78 : decode cX7_write 78 = .ok (.aload_n 3, 1) := by decide +kernel
theorem dX7_write_79 : decode cX7_write 79 = .ok (.invokevirtual 68, 3) := by decide +kernel
theorem dX7_write_82 : decode cX7_write 82 = .ok (.iconst 0, 1) := by decide +kernel
theorem dX7_write_83 : decode cX7_write 83 = .ok (.aload_n 0, 1) := by decide +kernel
theorem dX7_write_84 : decode cX7_write 84 = .ok (.getfield 14, 3) := by decide +kernel
theorem dX7_write_87 : decode cX7_write 87 = .ok (.iload_n 1, 1) := by decide +kernel
theorem dX7_write_88 : decode cX7_write 88 = .ok (.aaload, 1) := by decide +kernel
theorem dX7_write_89 : decode cX7_write 89 = .ok (.iconst 4, 1) := by decide +kernel
theorem dX7_write_90 : decode cX7_write 90 = .ok (.iload 4, 2) := by decide +kernel
theorem dX7_write_92 : decode cX7_write 92 = .ok (.imul, 1) := by decide +kernel
theorem dX7_write_93 : decode cX7_write 93 = .ok (.iconst 4, 1) := by decide +kernel
theorem dX7_write_94 : decode cX7_write 94 = .ok (.invokestatic 51, 3) := by decide +kernel
theorem dX7_write_97 : decode cX7_write 97 = .ok (.aload_n 0, 1) := by decide +kernel
theorem dX7_write_98 : decode cX7_write 98 = .ok (.aload_n 3, 1) := by decide +kernel
theorem dX7_write_99 : decode cX7_write 99 = .ok (.iload_n 1, 1) := by decide +kernel
theorem dX7_write_100 : decode cX7_write 100 = .ok (.aload 5, 2) := by decide +kernel
theorem dX7_write_102 : decode cX7_write 102 = .ok (.invokevirtual 68, 3) := by decide +kernel
theorem dX7_write_105 : decode cX7_write 105 = .ok (.astore_n 3, 1) := by decide +kernel
theorem dX7_write_106 : decode cX7_write 106 = .ok (.iinc 4 1, 3) := by decide +kernel
theorem dX7_write_109 : decode cX7_write 109 = .ok (.goto (-98), 3) := by decide +kernel
theorem dX7_write_112 : decode cX7_write 112 = .ok (.aload_n 3, 1) := by decide +kernel
theorem dX7_write_113 : decode cX7_write 113 = .ok (.iconst 0, 1) := by decide +kernel
theorem dX7_write_114 : decode cX7_write 114 = .ok (.aload_n 0, 1) := by decide +kernel
theorem dX7_write_115 : decode cX7_write 115 = .ok (.getfield 14, 3) := by decide +kernel
theorem dX7_write_118 : decode cX7_write 118 = .ok (.iconst 1, 1) := by decide +kernel
theorem dX7_write_119 : decode cX7_write 119 = .ok (.iload_n 1, 1) := by decide +kernel
theorem dX7_write_120 : decode cX7_write 120 = .ok (.isub, 1) := by decide +kernel
theorem dX7_write_121 : decode cX7_write 121 = .ok (.aaload, 1) := by decide +kernel
theorem dX7_write_122 : decode cX7_write 122 = .ok (.iconst 4, 1) := by decide +kernel
theorem dX7_write_123 : decode cX7_write 123 = .ok (.aload_n 0, 1) := by decide +kernel
theorem dX7_write_124 : decode cX7_write 124 = .ok (.getfield 17, 3) := by decide +kernel
theorem dX7_write_127 : decode cX7_write 127 = .ok (.iconst 1, 1) := by decide +kernel
theorem dX7_write_128 : decode cX7_write 128 = .ok (.iload_n 1, 1) := by decide +kernel
theorem dX7_write_129 : decode cX7_write 129 = .ok (.isub, 1) := by decide +kernel
theorem dX7_write_130 : decode cX7_write 130 = .ok (.aaload, 1) := by decide +kernel
theorem dX7_write_131 : decode cX7_write 131 = .ok (.iconst 1, 1) := by decide +kernel
theorem dX7_write_132 : decode cX7_write 132 = .ok (.iaload, 1) := by decide +kernel
theorem dX7_write_133 : decode cX7_write 133 = .ok (.imul, 1) := by decide +kernel
theorem dX7_write_134 : decode cX7_write 134 = .ok (.iconst 4, 1) := by decide +kernel
theorem dX7_write_135 : decode cX7_write 135 = .ok (.invokestatic 51, 3) := by decide +kernel
theorem dX7_write_138 : decode cX7_write 138 = .ok (.aload_n 0, 1) := by decide +kernel
theorem dX7_write_139 : decode cX7_write 139 = .ok (.getfield 17, 3) := by decide +kernel
theorem dX7_write_142 : decode cX7_write 142 = .ok (.iconst 1, 1) := by decide +kernel
theorem dX7_write_143 : decode cX7_write 143 = .ok (.iload_n 1, 1) := by decide +kernel
theorem dX7_write_144 : decode cX7_write 144 = .ok (.isub, 1) := by decide +kernel
theorem dX7_write_145 : decode cX7_write 145 = .ok (.aaload, 1) := by decide +kernel
theorem dX7_write_146 : decode cX7_write 146 = .ok (.iconst 1, 1) := by decide +kernel
theorem dX7_write_147 : decode cX7_write 147 = .ok (.dup2, 1) := by decide +kernel
theorem dX7_write_148 : decode cX7_write 148 = .ok (.iaload, 1) := by decide +kernel
theorem dX7_write_149 : decode cX7_write 149 = .ok (.iconst 1, 1) := by decide +kernel
theorem dX7_write_150 : decode cX7_write 150 = .ok (.iadd, 1) := by decide +kernel
theorem dX7_write_151 : decode cX7_write 151 = .ok (.iastore, 1) := by decide +kernel
theorem dX7_write_152 : decode cX7_write 152 = .ok (.aload_n 0, 1) := by decide +kernel
theorem dX7_write_153 : decode cX7_write 153 = .ok (.getfield 17, 3) := by decide +kernel
theorem dX7_write_156 : decode cX7_write 156 = .ok (.iload_n 1, 1) := by decide +kernel
theorem dX7_write_157 : decode cX7_write 157 = .ok (.aaload, 1) := by decide +kernel
theorem dX7_write_158 : decode cX7_write 158 = .ok (.iconst 2, 1) := by decide +kernel
theorem dX7_write_159 : decode cX7_write 159 = .ok (.dup2, 1) := by decide +kernel
theorem dX7_write_160 : decode cX7_write 160 = .ok (.iaload, 1) := by decide +kernel
theorem dX7_write_161 : decode cX7_write 161 = .ok (.iconst 1, 1) := by decide +kernel
theorem dX7_write_162 : decode cX7_write 162 = .ok (.iadd, 1) := by decide +kernel
theorem dX7_write_163 : decode cX7_write 163 = .ok (.iastore, 1) := by decide +kernel
theorem dX7_write_164 : decode cX7_write 164 = .ok (.return_, 1) := by decide +kernel
theorem dX7_remember_0 : decode cX7_remember 0 = .ok (.aload_n 0, 1) := by decide +kernel
theorem dX7_remember_1 : decode cX7_remember 1 = .ok (.getfield 17, 3) := by decide +kernel
theorem dX7_remember_4 : decode cX7_remember 4 = .ok (.iload_n 1, 1) := by decide +kernel
theorem dX7_remember_5 : decode cX7_remember 5 = .ok (.aaload, 1) := by decide +kernel
theorem dX7_remember_6 : decode cX7_remember 6 = .ok (.iconst 5, 1) := by decide +kernel
theorem dX7_remember_7 : decode cX7_remember 7 = .ok (.iaload, 1) := by decide +kernel
theorem dX7_remember_8 : decode cX7_remember 8 = .ok (.istore 5, 2) := by decide +kernel
theorem dX7_remember_10 : decode cX7_remember 10 = .ok (.iconst 3, 1) := by decide +kernel
theorem dX7_remember_11 : decode cX7_remember 11 = .ok (.iload 5, 2) := by decide +kernel
theorem dX7_remember_13 : decode cX7_remember 13 = .ok (.imul, 1) := by decide +kernel
theorem dX7_remember_14 : decode cX7_remember 14 = .ok (.aload_n 0, 1) := by decide +kernel
theorem dX7_remember_15 : decode cX7_remember 15 = .ok (.getfield 22, 3) := by decide +kernel
theorem dX7_remember_18 : decode cX7_remember 18 = .ok (.iload_n 1, 1) := by decide +kernel
theorem dX7_remember_19 : decode cX7_remember 19 = .ok (.aaload, 1) := by decide +kernel
theorem dX7_remember_20 : decode cX7_remember 20 = .ok (.arraylength, 1) := by decide +kernel
theorem dX7_remember_21 : decode cX7_remember 21 = .ok (.if_icmp .ne 37, 3) := by decide +kernel
theorem dX7_remember_24 : decode cX7_remember 24 = .ok (.bipush 6, 2) := by decide +kernel
theorem dX7_remember_26 : decode cX7_remember 26 = .ok (.iload 5, 2) := by decide +kernel
theorem dX7_remember_28 : decode cX7_remember 28 = .ok (.imul, 1) := by decide +kernel
theorem dX7_remember_29 : decode cX7_remember 29 = .ok (.newarray .int, 2) := by decide +kernel
theorem dX7_remember_31 : decode cX7_remember 31 = .ok (.astore 6, 2) := by decide +kernel
theorem dX7_remember_33 : decode cX7_remember 33 = .ok (.aload_n 0, 1) := by decide +kernel
theorem dX7_remember_34 : decode cX7_remember 34 = .ok (.getfield 22, 3) := by decide +kernel
theorem dX7_remember_37 : decode cX7_remember 37 = .ok (.iload_n 1, 1) := by decide +kernel
theorem dX7_remember_38 : decode cX7_remember 38 = .ok (.aaload, 1) := by decide +kernel
theorem dX7_remember_39 : decode cX7_remember 39 = .ok (.iconst 0, 1) := by decide +kernel
theorem dX7_remember_40 : decode cX7_remember 40 = .ok (.aload 6, 2) := by decide +kernel
theorem dX7_remember_42 : decode cX7_remember 42 = .ok (.iconst 0, 1) := by decide +kernel
theorem dX7_remember_43 : decode cX7_remember 43 = .ok (.iconst 3, 1) := by decide +kernel
theorem dX7_remember_44 : decode cX7_remember 44 = .ok (.iload 5, 2) := by decide +kernel
theorem dX7_remember_46 : decode cX7_remember 46 = .ok (.imul, 1) := by decide +kernel
theorem dX7_remember_47 : decode cX7_remember 47 = .ok (.invokestatic 51, 3) := by decide +kernel
theorem dX7_remember_50 : decode cX7_remember 50 = .ok (.aload_n 0, 1) := by decide +kernel
theorem dX7_remember_51 : decode cX7_remember 51 = .ok (.getfield 22, 3) := by decide +kernel
theorem dX7_remember_54 : decode cX7_remember 54 = .ok (.iload_n 1, 1) := by decide +kernel
theorem dX7_remember_55 : decode cX7_remember 55 = .ok (.aload 6, 2) := by decide +kernel
theorem dX7_remember_57 : decode cX7_remember 57 = .ok (.aastore, 1) := by decide +kernel
theorem dX7_remember_58 : decode cX7_remember 58 = .ok (.aload_n 0, 1) := by decide +kernel
theorem dX7_remember_59 : decode cX7_remember 59 = .ok (.getfield 22, 3) := by decide +kernel
theorem dX7_remember_62 : decode cX7_remember 62 = .ok (.iload_n 1, 1) := by decide +kernel
theorem dX7_remember_63 : decode cX7_remember 63 = .ok (.aaload, 1) := by decide +kernel
theorem dX7_remember_64 : decode cX7_remember 64 = .ok (.iconst 3, 1) := by decide +kernel
theorem dX7_remember_65 : decode cX7_remember 65 = .ok (.iload 5, 2) := by decide +kernel
theorem dX7_remember_67 : decode cX7_remember 67 = .ok (.imul, 1) := by decide +kernel
theorem dX7_remember_68 : decode cX7_remember 68 = .ok (.iload_n 2, 1) := by decide +kernel
theorem dX7_remember_69 : decode cX7_remember 69 = .ok (.iastore, 1) := by decide +kernel
theorem dX7_remember_70 : decode cX7_remember 70 = .ok (.aload_n 0, 1) := by decide +kernel
theorem dX7_remember_71 : decode cX7_remember 71 = .ok (.getfield 22, 3) := by decide +kernel
theorem dX7_remember_74 : decode cX7_remember 74 = .ok (.iload_n 1, 1) := by decide +kernel
theorem dX7_remember_75 : decode cX7_remember 75 = .ok (.aaload, 1) := by decide +kernel
theorem dX7_remember_76 : decode cX7_remember 76 = .ok (.iconst 3, 1) := by decide +kernel
theorem dX7_remember_77 : decode cX7_remember 77 = .ok (.iload 5, 2) := by decide +kernel
theorem dX7_remember_79 : decode cX7_remember 79 = .ok (.imul, 1) := by decide +kernel
theorem dX7_remember_80 : decode cX7_remember 80 = .ok (.iconst 1, 1) := by decide +kernel
theorem dX7_remember_81 : decode cX7_remember 81 = .ok (.iadd, 1) := by decide +kernel
theorem dX7_remember_82 : decode cX7_remember 82 = .ok (.iload_n 3, 1) := by decide +kernel
theorem dX7_remember_83 : decode cX7_remember 83 = .ok (.iastore, 1) := by decide +kernel
theorem dX7_remember_84 : decode cX7_remember 84 = .ok (.aload_n 0, 1) := by decide +kernel
theorem dX7_remember_85 : decode cX7_remember 85 = .ok (.getfield 22, 3) := by decide +kernel
theorem dX7_remember_88 : decode cX7_remember 88 = .ok (.iload_n 1, 1) := by decide +kernel
theorem dX7_remember_89 : decode cX7_remember 89 = .ok (.aaload, 1) := by decide +kernel
theorem dX7_remember_90 : decode cX7_remember 90 = .ok (.iconst 3, 1) := by decide +kernel
theorem dX7_remember_91 : decode cX7_remember 91 = .ok (.iload 5, 2) := by decide +kernel
theorem dX7_remember_93 : decode cX7_remember 93 = .ok (.imul, 1) := by decide +kernel
theorem dX7_remember_94 : decode cX7_remember 94 = .ok (.iconst 2, 1) := by decide +kernel
theorem dX7_remember_95 : decode cX7_remember 95 = .ok (.iadd, 1) := by decide +kernel
theorem dX7_remember_96 : decode cX7_remember 96 = .ok (.iload 4, 2) := by decide +kernel
theorem dX7_remember_98 : decode cX7_remember 98 = .ok (.iastore, 1) := by decide +kernel
theorem dX7_remember_99 : decode cX7_remember 99 = .ok (.aload_n 0, 1) := by decide +kernel
theorem dX7_remember_100 : decode cX7_remember 100 = .ok (.getfield 17, 3) := by decide +kernel
theorem dX7_remember_103 : decode cX7_remember 103 = .ok (.iload_n 1, 1) := by decide +kernel
theorem dX7_remember_104 : decode cX7_remember 104 = .ok (.aaload, 1) := by decide +kernel
theorem dX7_remember_105 : decode cX7_remember 105 = .ok (.iconst 5, 1) := by decide +kernel
theorem dX7_remember_106 : decode cX7_remember 106 = .ok (.dup2, 1) := by decide +kernel
theorem dX7_remember_107 : decode cX7_remember 107 = .ok (.iaload, 1) := by decide +kernel
theorem dX7_remember_108 : decode cX7_remember 108 = .ok (.iconst 1, 1) := by decide +kernel
theorem dX7_remember_109 : decode cX7_remember 109 = .ok (.iadd, 1) := by decide +kernel
theorem dX7_remember_110 : decode cX7_remember 110 = .ok (.iastore, 1) := by decide +kernel
theorem dX7_remember_111 : decode cX7_remember 111 = .ok (.return_, 1) := by decide +kernel
theorem dX7_setRule_0 : decode cX7_setRule 0 = .ok (.aload_n 0, 1) := by decide +kernel
theorem dX7_setRule_1 : decode cX7_setRule 1 = .ok (.iconst 0, 1) := by decide +kernel
theorem dX7_setRule_2 : decode cX7_setRule 2 = .ok (.putfield 25, 3) := by decide +kernel
theorem dX7_setRule_5 : decode cX7_setRule 5 = .ok (.iload_n 1, 1) := by decide +kernel
theorem dX7_setRule_6 : decode cX7_setRule 6 = .ok (.iconst 0, 1) := by decide +kernel
theorem dX7_setRule_7 : decode cX7_setRule 7 = .ok (.iconst 2, 1) := by decide +kernel
theorem dX7_setRule_8 : decode cX7_setRule 8 = .ok (.invokestatic 29, 3) := by decide +kernel
theorem dX7_setRule_11 : decode cX7_setRule 11 = .ok (.ifCond .ne 9, 3) := by decide +kernel
theorem dX7_setRule_14 : decode cX7_setRule 14 = .ok (.aload_n 0, 1) := by decide +kernel
theorem dX7_setRule_15 : decode cX7_setRule 15 = .ok (.iconst 1, 1) := by decide +kernel
theorem dX7_setRule_16 : decode cX7_setRule 16 = .ok (.invokevirtual 72, 3) := by decide +kernel
theorem dX7_setRule_19 : decode cX7_setRule 19 = .ok (.ireturn, 1) := by decide +kernel
theorem dX7_setRule_20 : decode cX7_setRule 20 = .ok (.aload_n 0, 1) := by decide +kernel
theorem dX7_setRule_21 : decode cX7_setRule 21 = .ok (.getfield 17, 3) := by decide +kernel
theorem dX7_setRule_24 : decode cX7_setRule 24 = .ok (.iconst 0, 1) := by decide +kernel
theorem dX7_setRule_25 : decode cX7_setRule 25 = .ok (.aaload, 1) := by decide +kernel
theorem dX7_setRule_26 : decode cX7_setRule 26 = .ok (.iconst 1, 1) := by decide +kernel
theorem dX7_setRule_27 : decode cX7_setRule 27 = .ok (.iaload, 1) := by decide +kernel
theorem dX7_setRule_28 : decode cX7_setRule 28 = .ok (.aload_n 0, 1) := by decide +kernel
theorem dX7_setRule_29 : decode cX7_setRule 29 = .ok (.getfield 17, 3) := by decide +kernel
theorem dX7_setRule_32 : decode cX7_setRule 32 = .ok (.iconst 1, 1) := by decide +kernel
theorem dX7_setRule_33 : decode cX7_setRule 33 = .ok (.aaload, 1) := by decide +kernel
theorem dX7_setRule_34 : decode cX7_setRule 34 = .ok (.iconst 1, 1) := by decide +kernel
theorem dX7_setRule_35 : decode cX7_setRule 35 = .ok (.iaload, 1) := by decide +kernel
theorem dX7_setRule_36 : decode cX7_setRule 36 = .ok (.iadd, 1) := by decide +kernel
theorem dX7_setRule_37 : decode cX7_setRule 37 = .ok (.ifCond .le 9, 3) := by decide +kernel
theorem dX7_setRule_40 : decode cX7_setRule 40 = .ok (.aload_n 0, 1) := by decide +kernel
theorem dX7_setRule_41 : decode cX7_setRule 41 = .ok (.iconst 2, 1) := by decide +kernel
theorem dX7_setRule_42 : decode cX7_setRule 42 = .ok (.invokevirtual 72, 3) := by decide +kernel
theorem dX7_setRule_45 : decode cX7_setRule 45 = .ok (.ireturn, 1) := by decide +kernel
theorem dX7_setRule_46 : decode cX7_setRule 46 = .ok (.aload_n 0, 1) := by decide +kernel
theorem dX7_setRule_47 : decode cX7_setRule 47 = .ok (.getfield 40, 3) := by decide +kernel
theorem dX7_setRule_50 : decode cX7_setRule 50 = .ok (.istore_n 2, 1) := by decide +kernel
theorem dX7_setRule_51 : decode cX7_setRule 51 = .ok (.aload_n 0, 1) := by decide +kernel
theorem dX7_setRule_52 : decode cX7_setRule 52 = .ok (.iload_n 1, 1) := by decide +kernel
theorem dX7_setRule_53 : decode cX7_setRule 53 = .ok (.putfield 40, 3) := by decide +kernel
theorem dX7_setRule_56 : decode cX7_setRule 56 = .ok (.iload_n 2, 1) := by decide +kernel
theorem dX7_setRule_57 : decode cX7_setRule 57 = .ok (.ireturn, 1) := by decide +kernel
theorem dX7_isLetter_0 : decode cX7_isLetter 0 = .ok (.iload_n 0, 1) := by decide +kernel
theorem dX7_isLetter_1 : decode cX7_isLetter 1 = .ok (.iconst 0, 1) := by decide +kernel
theorem dX7_isLetter_2 : decode cX7_isLetter 2 = .ok (.bipush 25, 2) := by decide +kernel
theorem dX7_isLetter_4 : decode cX7_isLetter 4 = .ok (.invokestatic 29, 3) := by decide +kernel
theorem dX7_isLetter_7 : decode cX7_isLetter 7 = .ok (.ifCond .eq 16, 3) := by decide +kernel
theorem dX7_isLetter_10 : decode cX7_isLetter 10 = .ok (.iload_n 1, 1) := by decide +kernel
theorem dX7_isLetter_11 : decode cX7_isLetter 11 = .ok (.iconst 0, 1) := by decide +kernel
theorem dX7_isLetter_12 : decode cX7_isLetter 12 = .ok (.iconst 1, 1) := by decide +kernel
theorem dX7_isLetter_13 : decode cX7_isLetter 13 = .ok (.invokestatic 29, 3) := by decide +kernel
theorem dX7_isLetter_16 : decode cX7_isLetter 16 = .ok (.ifCond .eq 7, 3) := by decide +kernel
theorem dX7_isLetter_19 : decode cX7_isLetter 19 = .ok (.iconst 1, 1) := by decide +kernel
theorem dX7_isLetter_20 : decode cX7_isLetter 20 = .ok (.goto 4, 3) := by decide +kernel
theorem dX7_isLetter_23 : decode cX7_isLetter 23 = .ok (.iconst 0, 1) := by decide +kernel
theorem dX7_isLetter_24 : decode cX7_isLetter 24 = .ok (.ireturn, 1) := by decide +kernel
