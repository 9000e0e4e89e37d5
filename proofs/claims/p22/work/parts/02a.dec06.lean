theorem dX7_copy_0 : decode cX7_copy 0 = .ok (.new 8, 3) := by decide +kernel
theorem dX7_copy_3 : decode cX7_copy 3 = .ok (.dup, 1) := by decide +kernel
theorem dX7_copy_4 : decode cX7_copy 4 = .ok (.invokespecial 38, 3) := by decide +kernel
theorem dX7_copy_7 : decode cX7_copy 7 = .ok (.astore_n 1, 1) := by decide +kernel
theorem dX7_copy_8 : decode cX7_copy 8 = .ok (.aload_n 1, 1) := by decide +kernel
theorem dX7_copy_9 : decode cX7_copy 9 = .ok (.aload_n 0, 1) := by decide +kernel
theorem dX7_copy_10 : decode cX7_copy 10 = .ok (.getfield 39, 3) := by decide +kernel
theorem dX7_copy_13 : decode cX7_copy 13 = .ok (.putfield 39, 3) := by decide +kernel
theorem dX7_copy_16 : decode cX7_copy 16 = .ok (.aload_n 1, 1) := by decide +kernel
theorem dX7_copy_17 : decode cX7_copy 17 = .ok (.aload_n 0, 1) := by decide +kernel
theorem dX7_copy_18 : decode cX7_copy 18 = .ok (.getfield 43, 3) := by decide +kernel
theorem dX7_copy_21 : decode cX7_copy 21 = .ok (.putfield 43, 3) := by decide +kernel
theorem dX7_copy_24 : decode cX7_copy 24 = .ok (.aload_n 1, 1) := by decide +kernel
theorem dX7_copy_25 : decode cX7_copy 25 = .ok (.aload_n 0, 1) := by decide +kernel
theorem dX7_copy_26 : decode cX7_copy 26 = .ok (.getfield 7, 3) := by decide +kernel
theorem dX7_copy_29 : decode cX7_copy 29 = .ok (.putfield 7, 3) := by decide +kernel
theorem dX7_copy_32 : decode cX7_copy 32 = .ok (.aload_n 1, 1) := by decide +kernel
theorem dX7_copy_33 : decode cX7_copy 33 = .ok (.aload_n 0, 1) := by decide +kernel
theorem dX7_copy_34 : decode cX7_copy 34 = .ok (.getfield 13, 3) := by decide +kernel
theorem dX7_copy_37 : decode cX7_copy 37 = .ok (.putfield 13, 3) := by decide +kernel
theorem dX7_copy_40 : decode cX7_copy 40 = .ok (.iconst 0, 1) := by decide +kernel
theorem dX7_copy_41 : decode cX7_copy 41 = .ok (.istore_n 2, 1) := by decide +kernel
theorem dX7_copy_42 : decode cX7_copy 42 = .ok (.iload_n 2, 1) := by decide +kernel
theorem dX7_copy_43 : decode cX7_copy 43 = .ok (.iconst 2, 1) := by decide +kernel
theorem dX7_copy_44 : decode cX7_copy 44 = .ok (.if_icmp .ge 171, 3) := by decide +kernel
theorem dX7_copy_47 : decode cX7_copy 47 = .ok (.aload_n 1, 1) := by decide +kernel
theorem dX7_copy_48 : decode cX7_copy 48 = .ok (.getfield 17, 3) := by decide +kernel
theorem dX7_copy_51 : decode cX7_copy 51 = .ok (.iload_n 2, 1) := by decide +kernel
theorem dX7_copy_52 : decode cX7_copy 52 = .ok (.aload_n 0, 1) := by decide +kernel
theorem dX7_copy_53 : decode cX7_copy 53 = .ok (.getfield 17, 3) := by decide +kernel
theorem dX7_copy_56 : decode cX7_copy 56 = .ok (.iload_n 2, 1) := by decide +kernel
theorem dX7_copy_57 : decode cX7_copy 57 = .ok (.aaload, 1) := by decide +kernel
theorem dX7_copy_58 : decode cX7_copy 58 = .ok (.aastore, 1) := by decide +kernel
theorem dX7_copy_59 : decode cX7_copy 59 = .ok (.aload_n 1, 1) := by decide +kernel
theorem dX7_copy_60 : decode cX7_copy 60 = .ok (.getfield 22, 3) := by decide +kernel
theorem dX7_copy_63 : decode cX7_copy 63 = .ok (.iload_n 2, 1) := by decide +kernel
theorem dX7_copy_64 : decode cX7_copy 64 = .ok (.aload_n 0, 1) := by decide +kernel
theorem dX7_copy_65 : decode cX7_copy 65 = .ok (.getfield 22, 3) := by decide +kernel
theorem dX7_copy_68 : decode cX7_copy 68 = .ok (.iload_n 2, 1) := by decide +kernel
theorem dX7_copy_69 : decode cX7_copy 69 = .ok (.aaload, 1) := by decide +kernel
theorem dX7_copy_70 : decode cX7_copy 70 = .ok (.arraylength, 1) := by decide +kernel
theorem dX7_copy_71 : decode cX7_copy 71 = .ok (.anewarray 16, 3) := by decide +kernel
theorem dX7_copy_74 : decode cX7_copy 74 = .ok (.aastore, 1) := by decide +kernel
theorem dX7_copy_75 : decode cX7_copy 75 = .ok (.iconst 0, 1) := by decide +kernel
theorem dX7_copy_76 : decode cX7_copy 76 = .ok (.istore_n 3, 1) := by decide +kernel
theorem dX7_copy_77 : decode cX7_copy 77 = .ok (.iload_n 3, 1) := by decide +kernel
theorem dX7_copy_78 : decode cX7_copy 78 = .ok (.aload_n 0, 1) := by decide +kernel
theorem dX7_copy_79 : decode cX7_copy 79 = .ok (.getfield 22, 3) := by decide +kernel
theorem dX7_copy_82 : decode cX7_copy 82 = .ok (.iload_n 2, 1) := by decide +kernel
theorem dX7_copy_83 : decode cX7_copy 83 = .ok (.aaload, 1) := by decide +kernel
theorem dX7_copy_84 : decode cX7_copy 84 = .ok (.arraylength, 1) := by decide +kernel
theorem dX7_copy_85 : decode cX7_copy 85 = .ok (.if_icmp .ge 31, 3) := by decide +kernel
theorem dX7_copy_88 : decode cX7_copy 88 = .ok (.aload_n 1, 1) := by decide +kernel
theorem dX7_copy_89 : decode cX7_copy 89 = .ok (.getfield 22, 3) := by decide +kernel
theorem dX7_copy_92 : decode cX7_copy 92 = .ok (.iload_n 2, 1) := by decide +kernel
theorem dX7_copy_93 : decode cX7_copy 93 = .ok (.aaload, 1) := by decide +kernel
theorem dX7_copy_94 : decode cX7_copy 94 = .ok (.iload_n 3, 1) := by decide +kernel
theorem dX7_copy_95 : decode cX7_copy 95 = .ok (.aload_n 0, 1) := by decide +kernel
theorem dX7_copy_96 : decode cX7_copy 96 = .ok (.getfield 22, 3) := by decide +kernel
theorem dX7_copy_99 : decode cX7_copy 99 = .ok (.iload_n 2, 1) := by decide +kernel
theorem dX7_copy_100 : decode cX7_copy 100 = .ok (.aaload, 1) := by decide +kernel
theorem dX7_copy_101 : decode cX7_copy 101 = .ok (.iload_n 3, 1) := by decide +kernel
theorem dX7_copy_102 : decode cX7_copy 102 = .ok (.aaload, 1) := by decide +kernel
theorem dX7_copy_103 : decode cX7_copy 103 = .ok (.invokevirtual 46, 3) := by decide +kernel
theorem dX7_copy_106 : decode cX7_copy 106 = .ok (.checkcast 16, 3) := by decide +kernel
theorem dX7_copy_109 : decode cX7_copy 109 = .ok (.aastore, 1) := by decide +kernel
theorem dX7_copy_110 : decode cX7_copy 110 = .ok (.iinc 3 1, 3) := by decide +kernel
theorem dX7_copy_113 : decode cX7_copy 113 = .ok (.goto (-36), 3) := by decide +kernel
theorem dX7_copy_116 : decode cX7_copy 116 = .ok (.aload_n 1, 1) := by decide +kernel
theorem dX7_copy_117 : decode cX7_copy 117 = .ok (.getfield 26, 3) := by decide +kernel
theorem dX7_copy_120 : decode cX7_copy 120 = .ok (.iload_n 2, 1) := by decide +kernel
theorem dX7_copy_121 : decode cX7_copy 121 = .ok (.aload_n 0, 1) := by decide +kernel
theorem dX7_copy_122 : decode cX7_copy 122 = .ok (.getfield 26, 3) := by decide +kernel
theorem dX7_copy_125 : decode cX7_copy 125 = .ok (.iload_n 2, 1) := by decide +kernel
theorem dX7_copy_126 : decode cX7_copy 126 = .ok (.aaload, 1) := by decide +kernel
theorem dX7_copy_127 : decode cX7_copy 127 = .ok (.arraylength, 1) := by decide +kernel
theorem dX7_copy_128 : decode cX7_copy 128 = .ok (.anewarray 16, 3) := by decide +kernel
theorem dX7_copy_131 : decode cX7_copy 131 = .ok (.aastore, 1) := by decide +kernel
theorem dX7_copy_132 : decode cX7_copy 132 = .ok (.iconst 0, 1) := by decide +kernel
theorem dX7_copy_133 : decode cX7_copy 133 = .ok (.istore_n 3, 1) := by decide +kernel
theorem dX7_copy_134 : decode cX7_copy 134 = .ok (.iload_n 3, 1) := by decide +kernel
theorem dX7_copy_135 : decode cX7_copy 135 = .ok (.aload_n 0, 1) := by decide +kernel
theorem dX7_copy_136 : decode cX7_copy 136 = .ok (.getfield 26, 3) := by decide +kernel
theorem dX7_copy_139 : decode cX7_copy 139 = .ok (.iload_n 2, 1) := by decide +kernel
theorem dX7_copy_140 : decode cX7_copy 140 = .ok (.aaload, 1) := by decide +kernel
theorem dX7_copy_141 : decode cX7_copy 141 = .ok (.arraylength, 1) := by decide +kernel
theorem dX7_copy_142 : decode cX7_copy 142 = .ok (.if_icmp .ge 31, 3) := by decide +kernel
theorem dX7_copy_145 : decode cX7_copy 145 = .ok (.aload_n 1, 1) := by decide +kernel
theorem dX7_copy_146 : decode cX7_copy 146 = .ok (.getfield 26, 3) := by decide +kernel
theorem dX7_copy_149 : decode cX7_copy 149 = .ok (.iload_n 2, 1) := by decide +kernel
theorem dX7_copy_150 : decode cX7_copy 150 = .ok (.aaload, 1) := by decide +kernel
theorem dX7_copy_151 : decode cX7_copy 151 = .ok (.iload_n 3, 1) := by decide +kernel
theorem dX7_copy_152 : decode cX7_copy 152 = .ok (.aload_n 0, 1) := by decide +kernel
theorem dX7_copy_153 : decode cX7_copy 153 = .ok (.getfield 26, 3) := by decide +kernel
theorem dX7_copy_156 : decode cX7_copy 156 = .ok (.iload_n 2, 1) := by decide +kernel
theorem dX7_copy_157 : decode cX7_copy 157 = .ok (.aaload, 1) := by decide +kernel
theorem dX7_copy_158 : decode cX7_copy 158 = .ok (.iload_n 3, 1) := by decide +kernel
theorem dX7_copy_159 : decode cX7_copy 159 = .ok (.aaload, 1) := by decide +kernel
theorem dX7_copy_160 : decode cX7_copy 160 = .ok (.invokevirtual 46, 3) := by decide +kernel
theorem dX7_copy_163 : decode cX7_copy 163 = .ok (.checkcast 16, 3) := by decide +kernel
theorem dX7_copy_166 : decode cX7_copy 166 = .ok (.aastore, 1) := by decide +kernel
theorem dX7_copy_167 : decode cX7_copy 167 = .ok (.iinc 3 1, 3) := by decide +kernel
theorem dX7_copy_170 : decode cX7_copy 170 = .ok (.goto (-36), 3) := by decide +kernel
theorem dX7_copy_173 : decode cX7_copy 173 = .ok (.aload_n 1, 1) := by decide +kernel
theorem dX7_copy_174 : decode cX7_copy 174 = .ok (.getfield 29, 3) := by decide +kernel
theorem dX7_copy_177 : decode cX7_copy 177 = .ok (.iload_n 2, 1) := by decide +kernel
theorem dX7_copy_178 : decode cX7_copy 178 = .ok (.aload_n 0, 1) := by decide +kernel
theorem dX7_copy_179 : decode cX7_copy 179 = .ok (.getfield 29, 3) := by decide +kernel
theorem dX7_copy_182 : decode cX7_copy 182 = .ok (.iload_n 2, 1) := by decide +kernel
theorem dX7_copy_183 : decode cX7_copy 183 = .ok (.iaload, 1) := by decide +kernel
theorem dX7_copy_184 : decode cX7_copy 184 = .ok (.iastore, 1) := by decide +kernel
theorem dX7_copy_185 : decode cX7_copy 185 = .ok (.aload_n 1, 1) := by decide +kernel
theorem dX7_copy_186 : decode cX7_copy 186 = .ok (.getfield 32, 3) := by decide +kernel
theorem dX7_copy_189 : decode cX7_copy 189 = .ok (.iload_n 2, 1) := by decide +kernel
theorem dX7_copy_190 : decode cX7_copy 190 = .ok (.aload_n 0, 1) := by decide +kernel
theorem dX7_copy_191 : decode cX7_copy 191 = .ok (.getfield 32, 3) := by decide +kernel
theorem dX7_copy_194 : decode cX7_copy 194 = .ok (.iload_n 2, 1) := by decide +kernel
theorem dX7_copy_195 : decode cX7_copy 195 = .ok (.iaload, 1) := by decide +kernel
theorem dX7_copy_196 : decode cX7_copy 196 = .ok (.iastore, 1) := by decide +kernel
theorem dX7_copy_197 : decode cX7_copy 197 = .ok (.aload_n 1, 1) := by decide +kernel
theorem dX7_copy_198 : decode cX7_copy 198 = .ok (.getfield 35, 3) := by decide +kernel
theorem dX7_copy_201 : decode cX7_copy 201 = .ok (.iload_n 2, 1) := by decide +kernel
theorem dX7_copy_202 : decode cX7_copy 202 = .ok (.aload_n 0, 1) := by decide +kernel
theorem dX7_copy_203 : decode cX7_copy 203 = .ok (.getfield 35, 3) := by decide +kernel
theorem dX7_copy_206 : decode cX7_copy 206 = .ok (.iload_n 2, 1) := by decide +kernel
theorem dX7_copy_207 : decode cX7_copy 207 = .ok (.iaload, 1) := by decide +kernel
theorem dX7_copy_208 : decode cX7_copy 208 = .ok (.iastore, 1) := by decide +kernel
theorem dX7_copy_209 : decode cX7_copy 209 = .ok (.iinc 2 1, 3) := by decide +kernel
theorem dX7_copy_212 : decode cX7_copy 212 = .ok (.goto (-170), 3) := by decide +kernel
theorem dX7_copy_215 : decode cX7_copy 215 = .ok (.aload_n 1, 1) := by decide +kernel
theorem dX7_copy_216 : decode cX7_copy 216 = .ok (.areturn, 1) := by decide +kernel
theorem dX7_first_0 : decode cX7_first 0 = .ok (.aload_n 1, 1) := by decide +kernel
theorem dX7_first_1 : decode cX7_first 1 = .ok (.iconst 2, 1) := by decide +kernel
theorem dX7_first_2 : decode cX7_first 2 = .ok (.iaload, 1) := by decide +kernel
theorem dX7_first_3 : decode cX7_first 3 = .ok (.aload_n 2, 1) := by decide +kernel
theorem dX7_first_4 : decode cX7_first 4 = .ok (.iconst 2, 1) := by decide +kernel
theorem dX7_first_5 : decode cX7_first 5 = .ok (.iaload, 1) := by decide +kernel
theorem dX7_first_6 : decode cX7_first 6 = .ok (.if_icmp .ge 5, 3) := by decide +kernel
theorem dX7_first_9 : decode cX7_first 9 = .ok (.iconst 1, 1) := by decide +kernel
theorem dX7_first_10 : decode cX7_first 10 = .ok (.ireturn, 1) := by decide +kernel
theorem dX7_first_11 : decode cX7_first 11 = .ok (.aload_n 1, 1) := by decide +kernel
theorem dX7_first_12 : decode cX7_first 12 = .ok (.iconst 2, 1) := by decide +kernel
theorem dX7_first_13 : decode cX7_first 13 = .ok (.iaload, 1) := by decide +kernel
theorem dX7_first_14 : decode cX7_first 14 = .ok (.aload_n 2, 1) := by decide +kernel
theorem dX7_first_15 : decode cX7_first 15 = .ok (.iconst 2, 1) := by decide +kernel
theorem dX7_first_16 : decode cX7_first 16 = .ok (.iaload, 1) := by decide +kernel
theorem dX7_first_17 : decode cX7_first 17 = .ok (.if_icmp .le 5, 3) := by decide +kernel
theorem dX7_first_20 : decode cX7_first 20 = .ok (.iconst 0, 1) := by decide +kernel
theorem dX7_first_21 : decode cX7_first 21 = .ok (.ireturn, 1) := by decide +kernel
theorem dX7_first_22 : decode cX7_first 22 = .ok (.aload_n 1, 1) := by decide +kernel
theorem dX7_first_23 : decode cX7_first 23 = .ok (.iconst 4, 1) := by decide +kernel
theorem dX7_first_24 : decode cX7_first 24 = .ok (.iaload, 1) := by decide +kernel
theorem dX7_first_25 : decode cX7_first 25 = .ok (.ifCond .ne 7, 3) := by decide +kernel
theorem dX7_first_28 : decode cX7_first 28 = .ok (.iconst 1, 1) := by decide +kernel
theorem dX7_first_29 : decode cX7_first 29 = .ok (.goto 4, 3) := by decide +kernel
theorem dX7_first_32 : decode cX7_first 32 = .ok (.iconst 0, 1) := by decide +kernel
theorem dX7_first_33 : decode cX7_first 33 = .ok (.istore_n 3, 1) := by decide +kernel
theorem dX7_first_34 : decode cX7_first 34 = .ok (.aload_n 0, 1) := by decide +kernel
theorem dX7_first_35 : decode cX7_first 35 = .ok (.getfield 39, 3) := by decide +kernel
theorem dX7_first_38 : decode cX7_first 38 = .ok (.ifCond .ne 5, 3) := by decide +kernel
theorem dX7_first_41 : decode cX7_first 41 = .ok (.iload_n 3, 1) := by decide +kernel
theorem dX7_first_42 : decode cX7_first 42 = .ok (.ireturn, 1) := by decide +kernel
theorem dX7_first_43 : decode cX7_first 43 = .ok (.aload_n 0, 1) := by decide +kernel
theorem dX7_first_44 : decode cX7_first 44 = .ok (.getfield 39, 3) := by decide +kernel
theorem dX7_first_47 : decode cX7_first 47 = .ok (.iconst 1, 1) := by decide +kernel
theorem dX7_first_48 : decode cX7_first 48 = .ok (.if_icmp .ne 13, 3) := by decide +kernel
theorem dX7_first_51 : decode cX7_first 51 = .ok (.iload_n 3, 1) := by decide +kernel
theorem dX7_first_52 : decode cX7_first 52 = .ok (.ifCond .ne 7, 3) := by decide +kernel
theorem dX7_first_55 : decode cX7_first 55 = .ok (.iconst 1, 1) := by decide +kernel
theorem dX7_first_56 : decode cX7_first 56 = .ok (.goto 4, 3) := by decide +kernel
theorem dX7_first_59 : decode cX7_first 59 = .ok (.iconst 0, 1) := by decide +kernel
theorem dX7_first_60 : decode cX7_first 60 = .ok (.ireturn, 1) := by decide +kernel
theorem dX7_first_61 : decode cX7_first 61 = .ok (.aload_n 1, 1) := by decide +kernel
theorem dX7_first_62 : decode cX7_first 62 = .ok (.iconst 3, 1) := by decide +kernel
theorem dX7_first_63 : decode cX7_first 63 = .ok (.iaload, 1) := by decide +kernel
theorem dX7_first_64 : decode cX7_first 64 = .ok (.aload_n 2, 1) := by decide +kernel
theorem dX7_first_65 : decode cX7_first 65 = .ok (.iconst 3, 1) := by decide +kernel
theorem dX7_first_66 : decode cX7_first 66 = .ok (.iaload, 1) := by decide +kernel
theorem dX7_first_67 : decode cX7_first 67 = .ok (.if_icmp .lt 16, 3) := by decide +kernel
theorem dX7_first_70 : decode cX7_first 70 = .ok (.aload_n 1, 1) := by decide +kernel
theorem dX7_first_71 : decode cX7_first 71 = .ok (.iconst 3, 1) := by decide +kernel
theorem dX7_first_72 : decode cX7_first 72 = .ok (.iaload, 1) := by decide +kernel
theorem dX7_first_73 : decode cX7_first 73 = .ok (.aload_n 2, 1) := by decide +kernel
theorem dX7_first_74 : decode cX7_first 74 = .ok (.iconst 3, 1) := by decide +kernel
theorem dX7_first_75 : decode cX7_first 75 = .ok (.iaload, 1) := by decide +kernel
theorem dX7_first_76 : decode cX7_first 76 = .ok (.if_icmp .ne 11, 3) := by decide +kernel
theorem dX7_first_79 : decode cX7_first 79 = .ok (.iload_n 3, 1) := by decide +kernel
theorem dX7_first_80 : decode cX7_first 80 = .ok (.ifCond .eq 7, 3) := by decide +kernel
theorem dX7_first_83 : decode cX7_first 83 = .ok (.iconst 1, 1) := by decide +kernel
theorem dX7_first_84 : decode cX7_first 84 = .ok (.goto 4, 3) := by decide +kernel
theorem dX7_first_87 : decode cX7_first 87 = .ok (.iconst 0, 1) := by decide +kernel
theorem dX7_first_88 : decode cX7_first 88 = .ok (.ireturn, 1) := by decide +kernel
theorem dX7_by_0 : decode cX7_by 0 = .ok (.aload_n 1, 1) := by decide +kernel
theorem dX7_by_1 : decode cX7_by 1 = .ok (.invokevirtual 46, 3) := by decide +kernel
theorem dX7_by_4 : decode cX7_by 4 = .ok (.checkcast 16, 3) := by decide +kernel
theorem dX7_by_7 : decode cX7_by 7 = .ok (.astore_n 3, 1) := by decide +kernel
theorem dX7_by_8 : decode cX7_by 8 = .ok (.aload_n 1, 1) := by decide +kernel
theorem dX7_by_9 : decode cX7_by 9 = .ok (.iconst 0, 1) := by decide +kernel
theorem dX7_by_10 : decode cX7_by 10 = .ok (.iaload, 1) := by decide +kernel
theorem dX7_by_11 : decode cX7_by 11 = .ok (.ifCond .eq 9, 3) := by decide +kernel
theorem dX7_by_14 : decode cX7_by 14 = .ok (.aload_n 2, 1) := by decide +kernel
theorem dX7_by_15 : decode cX7_by 15 = .ok (.iconst 0, 1) := by decide +kernel
theorem dX7_by_16 : decode cX7_by 16 = .ok (.iaload, 1) := by decide +kernel
theorem dX7_by_17 : decode cX7_by 17 = .ok (.ifCond .ne 5, 3) := by decide +kernel
theorem dX7_by_20 : decode cX7_by 20 = .ok (.aload_n 3, 1) := by decide +kernel
theorem dX7_by_21 : decode cX7_by 21 = .ok (.areturn, 1) := by decide +kernel
theorem dX7_by_22 : decode cX7_by 22 = .ok (.aload_n 1, 1) := by decide +kernel
theorem dX7_by_23 : decode cX7_by 23 = .ok (.iconst 1, 1) := by decide +kernel
theorem dX7_by_24 : decode cX7_by 24 = .ok (.iaload, 1) := by decide +kernel
theorem dX7_by_25 : decode cX7_by 25 = .ok (.istore 4, 2) := by decide +kernel
theorem dX7_by_27 : decode cX7_by 27 = .ok (.aload_n 2, 1) := by decide +kernel
theorem dX7_by_28 : decode cX7_by 28 = .ok (.iconst 1, 1) := by decide +kernel
theorem dX7_by_29 : decode cX7_by 29 = .ok (.iaload, 1) := by decide +kernel
theorem dX7_by_30 : decode cX7_by 30 = .ok (.istore 5, 2) := by decide +kernel
theorem dX7_by_32 : decode cX7_by 32 = .ok (.aload_n 2, 1) := by decide +kernel
theorem dX7_by_33 : decode cX7_by 33 = .ok (.iconst 0, 1) := by decide +kernel
theorem dX7_by_34 : decode cX7_by 34 = .ok (.iaload, 1) := by decide +kernel
theorem dX7_by_35 : decode cX7_by 35 = .ok (.iconst 1, 1) := by decide +kernel
theorem dX7_by_36 : decode cX7_by 36 = .ok (.if_icmp .ne 43, 3) := by decide +kernel
theorem dX7_by_39 : decode cX7_by 39 = .ok (.iload 4, 2) := by decide +kernel
theorem dX7_by_41 : decode cX7_by 41 = .ok (.iload 5, 2) := by decide +kernel
theorem dX7_by_43 : decode cX7_by 43 = .ok (.if_icmp .gt 26, 3) := by decide +kernel
theorem dX7_by_46 : decode cX7_by 46 = .ok (.iload 4, 2) := by decide +kernel
theorem dX7_by_48 : decode cX7_by 48 = .ok (.iload 5, 2) := by decide +kernel
theorem dX7_by_50 : decode cX7_by 50 = .ok (.if_icmp .ne 61, 3) := by decide +kernel
theorem dX7_by_53 : decode cX7_by 53 = .ok (.aload_n 1, 1) := by decide +kernel
theorem dX7_by_54 : decode cX7_by 54 = .ok (.iconst 0, 1) := by decide +kernel
theorem dX7_by_55 : decode cX7_by 55 = .ok (.iaload, 1) := by decide +kernel
theorem dX7_by_56 : decode cX7_by 56 = .ok (.iconst 2, 1) := by decide +kernel
theorem dX7_by_57 : decode cX7_by 57 = .ok (.if_icmp .eq 12, 3) := by decide +kernel
theorem dX7_by_60 : decode cX7_by 60 = .ok (.aload_n 0, 1) := by decide +kernel
theorem dX7_by_61 : decode cX7_by 61 = .ok (.aload_n 1, 1) := by decide +kernel
theorem dX7_by_62 : decode cX7_by 62 = .ok (.aload_n 2, 1) := by decide +kernel
theorem dX7_by_63 : decode cX7_by 63 = .ok (.invokevirtual 50, 3) := by decide +kernel
theorem dX7_by_66 : decode cX7_by 66 = .ok (.ifCond .ne 45, 3) := by decide +kernel
theorem dX7_by_69 : decode cX7_by 69 = .ok (.aload_n 3, 1) := by decide +kernel
theorem dX7_by_70 : decode cX7_by 70 = .ok (.iconst 1, 1) := by decide +kernel
theorem dX7_by_71 : decode cX7_by 71 = .ok (.iload 4, 2) := by decide +kernel
theorem dX7_by_73 : decode cX7_by 73 = .ok (.iconst 1, 1) := by decide +kernel
theorem dX7_by_74 : decode cX7_by 74 = .ok (.iadd, 1) := by decide +kernel
theorem dX7_by_75 : decode cX7_by 75 = .ok (.iastore, 1) := by decide +kernel
theorem dX7_by_76 : decode cX7_by 76 = .ok (.goto 35, 3) := by decide +kernel
theorem dX7_by_79 : decode cX7_by 79 = .ok (.iload 4, 2) := by decide +kernel
theorem dX7_by_81 : decode cX7_by 81 = .ok (.iload 5, 2) := by decide +kernel
theorem dX7_by_83 : decode cX7_by 83 = .ok (.if_icmp .le 10, 3) := by decide +kernel
theorem dX7_by_86 : decode cX7_by 86 = .ok (.aload_n 3, 1) := by decide +kernel
theorem dX7_by_87 : decode cX7_by 87 = .ok (.iconst 1, 1) := by decide +kernel
theorem dX7_by_88 : decode cX7_by 88 = .ok (.iload 4, 2) := by decide +kernel
theorem dX7_by_90 : decode cX7_by 90 = .ok (.iconst 1, 1) := by decide +kernel
theorem dX7_by_91 : decode cX7_by 91 = .ok (.isub, 1) := by decide +kernel
theorem dX7_by_92 : decode cX7_by 92 = .ok (.iastore, 1) := by decide +kernel
theorem dX7_by_93 : decode cX7_by 93 = .ok (.iload 4, 2) := by decide +kernel
theorem dX7_by_95 : decode cX7_by 95 = .ok (.iload 5, 2) := by decide +kernel
theorem dX7_by_97 : decode cX7_by 97 = .ok (.if_icmp .ne 14, 3) := by decide +kernel
theorem dX7_by_100 : decode cX7_by 100 = .ok (.aload_n 1, 1) := by decide +kernel
theorem dX7_by_101 : decode cX7_by 101 = .ok (.iconst 0, 1) := by decide +kernel
theorem dX7_by_102 : decode cX7_by 102 = .ok (.iaload, 1) := by decide +kernel
theorem dX7_by_103 : decode cX7_by 103 = .ok (.iconst 2, 1) := by decide +kernel
theorem dX7_by_104 : decode cX7_by 104 = .ok (.if_icmp .ne 7, 3) := by decide +kernel
theorem dX7_by_107 : decode cX7_by 107 = .ok (.aload_n 3, 1) := by decide +kernel
theorem dX7_by_108 : decode cX7_by 108 = .ok (.iconst 0, 1) := by decide +kernel
theorem dX7_by_109 : decode cX7_by 109 = .ok (.iconst 0, 1) := by decide +kernel
theorem dX7_by_110 : decode cX7_by 110 = .ok (.iastore, 1) := by decide +kernel
theorem dX7_by_111 : decode cX7_by 111 = .ok (.aload_n 3, 1) := by decide +kernel
theorem dX7_by_112 : decode cX7_by 112 = .ok (.areturn, 1) := by decide +kernel
