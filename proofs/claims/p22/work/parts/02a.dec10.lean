theorem dX7_isSame_0 : decode cX7_isSame 0 = .ok (.iconst 0, 1) := by decide +kernel
theorem dX7_isSame_1 : decode cX7_isSame 1 = .ok (.istore_n 2, 1) := by decide +kernel
theorem dX7_isSame_2 : decode cX7_isSame 2 = .ok (.iconst (-1), 1) := by decide +kernel
theorem dX7_isSame_3 : decode cX7_isSame 3 = .ok (.istore_n 3, 1) := by decide +kernel
theorem dX7_isSame_4 : decode cX7_isSame 4 = .ok (.iconst 0, 1) := by decide +kernel
theorem dX7_isSame_5 : decode cX7_isSame 5 = .ok (.istore 4, 2) := by decide +kernel
theorem dX7_isSame_7 : decode cX7_isSame 7 = .ok (.iload 4, 2) := by decide +kernel
theorem dX7_isSame_9 : decode cX7_isSame 9 = .ok (.aload_n 0, 1) := by decide +kernel
theorem dX7_isSame_10 : decode cX7_isSame 10 = .ok (.getfield 17, 3) := by decide +kernel
theorem dX7_isSame_13 : decode cX7_isSame 13 = .ok (.iconst 0, 1) := by decide +kernel
theorem dX7_isSame_14 : decode cX7_isSame 14 = .ok (.aaload, 1) := by decide +kernel
theorem dX7_isSame_15 : decode cX7_isSame 15 = .ok (.arraylength, 1) := by decide +kernel
theorem dX7_isSame_16 : decode cX7_isSame 16 = .ok (.if_icmp .lt 15, 3) := by decide +kernel
theorem dX7_isSame_19 : decode cX7_isSame 19 = .ok (.iload 4, 2) := by decide +kernel
theorem dX7_isSame_21 : decode cX7_isSame 21 = .ok (.aload_n 0, 1) := by decide +kernel
theorem dX7_isSame_22 : decode cX7_isSame 22 = .ok (.getfield 17, 3) := by decide +kernel
theorem dX7_isSame_25 : decode cX7_isSame 25 = .ok (.iconst 1, 1) := by decide +kernel
theorem dX7_isSame_26 : decode cX7_isSame 26 = .ok (.aaload, 1) := by decide +kernel
theorem dX7_isSame_27 : decode cX7_isSame 27 = .ok (.arraylength, 1) := by decide +kernel
theorem dX7_isSame_28 : decode cX7_isSame 28 = .ok (.if_icmp .ge 96, 3) := by decide +kernel
theorem dX7_isSame_31 : decode cX7_isSame 31 = .ok (.iload 4, 2) := by decide +kernel
theorem dX7_isSame_33 : decode cX7_isSame 33 = .ok (.aload_n 0, 1) := by decide +kernel
theorem dX7_isSame_34 : decode cX7_isSame 34 = .ok (.getfield 17, 3) := by decide +kernel
theorem dX7_isSame_37 : decode cX7_isSame 37 = .ok (.iconst 0, 1) := by decide +kernel
theorem dX7_isSame_38 : decode cX7_isSame 38 = .ok (.aaload, 1) := by decide +kernel
theorem dX7_isSame_39 : decode cX7_isSame 39 = .ok (.arraylength, 1) := by decide +kernel
theorem dX7_isSame_40 : decode cX7_isSame 40 = .ok (.if_icmp .ge 46, 3) := by decide +kernel
theorem dX7_isSame_43 : decode cX7_isSame 43 = .ok (.iload 4, 2) := by decide +kernel
theorem dX7_isSame_45 : decode cX7_isSame 45 = .ok (.aload_n 0, 1) := by decide +kernel
theorem dX7_isSame_46 : decode cX7_isSame 46 = .ok (.getfield 17, 3) := by decide +kernel
theorem dX7_isSame_49 : decode cX7_isSame 49 = .ok (.iconst 1, 1) := by decide +kernel
theorem dX7_isSame_50 : decode cX7_isSame 50 = .ok (.aaload, 1) := by decide +kernel
theorem dX7_isSame_51 : decode cX7_isSame 51 = .ok (.arraylength, 1) := by decide +kernel
theorem dX7_isSame_52 : decode cX7_isSame 52 = .ok (.if_icmp .ge 34, 3) := by decide +kernel
theorem dX7_isSame_55 : decode cX7_isSame 55 = .ok (.aload_n 0, 1) := by decide +kernel
theorem dX7_isSame_56 : decode cX7_isSame 56 = .ok (.getfield 7, 3) := by decide +kernel
theorem dX7_isSame_59 : decode cX7_isSame 59 = .ok (.aload_n 0, 1) := by decide +kernel
theorem dX7_isSame_60 : decode cX7_isSame 60 = .ok (.getfield 17, 3) := by decide +kernel
theorem dX7_isSame_63 : decode cX7_isSame 63 = .ok (.iconst 0, 1) := by decide +kernel
theorem dX7_isSame_64 : decode cX7_isSame 64 = .ok (.aaload, 1) := by decide +kernel
theorem dX7_isSame_65 : decode cX7_isSame 65 = .ok (.iload 4, 2) := by decide +kernel
theorem dX7_isSame_67 : decode cX7_isSame 67 = .ok (.iaload, 1) := by decide +kernel
theorem dX7_isSame_68 : decode cX7_isSame 68 = .ok (.iaload, 1) := by decide +kernel
theorem dX7_isSame_69 : decode cX7_isSame 69 = .ok (.aload_n 0, 1) := by decide +kernel
theorem dX7_isSame_70 : decode cX7_isSame 70 = .ok (.getfield 7, 3) := by decide +kernel
theorem dX7_isSame_73 : decode cX7_isSame 73 = .ok (.aload_n 0, 1) := by decide +kernel
theorem dX7_isSame_74 : decode cX7_isSame 74 = .ok (.getfield 17, 3) := by decide +kernel
theorem dX7_isSame_77 : decode cX7_isSame 77 = .ok (.iconst 1, 1) := by decide +kernel
theorem dX7_isSame_78 : decode cX7_isSame 78 = .ok (.aaload, 1) := by decide +kernel
theorem dX7_isSame_79 : decode cX7_isSame 79 = .ok (.iload 4, 2) := by decide +kernel
theorem dX7_isSame_81 : decode cX7_isSame 81 = .ok (.iaload, 1) := by decide +kernel
theorem dX7_isSame_82 : decode cX7_isSame 82 = .ok (.iaload, 1) := by decide +kernel
theorem dX7_isSame_83 : decode cX7_isSame 83 = .ok (.if_icmp .eq 7, 3) := by decide +kernel
theorem dX7_isSame_86 : decode cX7_isSame 86 = .ok (.iconst 1, 1) := by decide +kernel
theorem dX7_isSame_87 : decode cX7_isSame 87 = .ok (.goto 4, 3) := by decide +kernel
theorem dX7_isSame_90 : decode cX7_isSame 90 = .ok (.iconst 0, 1) := by decide +kernel
theorem dX7_isSame_91 : decode cX7_isSame 91 = .ok (.istore 5, 2) := by decide +kernel
theorem dX7_isSame_93 : decode cX7_isSame 93 = .ok (.iload 5, 2) := by decide +kernel
theorem dX7_isSame_95 : decode cX7_isSame 95 = .ok (.ifCond .eq 10, 3) := by decide +kernel
theorem dX7_isSame_98 : decode cX7_isSame 98 = .ok (.iload_n 3, 1) := by decide +kernel
theorem dX7_isSame_99 : decode cX7_isSame 99 = .ok (.ifCond .ge 6, 3) := by decide +kernel
theorem dX7_isSame_102 : decode cX7_isSame 102 = .ok (.iload 4, 2) := by decide +kernel
theorem dX7_isSame_104 : decode cX7_isSame 104 = .ok (.istore_n 3, 1) := by decide +kernel
theorem dX7_isSame_105 : decode cX7_isSame 105 = .ok (.iload_n 2, 1) := by decide +kernel
theorem dX7_isSame_106 : decode cX7_isSame 106 = .ok (.iload 5, 2) := by decide +kernel
theorem dX7_isSame_108 : decode cX7_isSame 108 = .ok (.ifCond .eq 7, 3) := by decide +kernel
theorem dX7_isSame_111 : decode cX7_isSame 111 = .ok (.iconst 1, 1) := by decide +kernel
theorem dX7_isSame_112 : decode cX7_isSame 112 = .ok (.goto 4, 3) := by decide +kernel
theorem dX7_isSame_115 : decode cX7_isSame 115 = .ok (.iconst 0, 1) := by decide +kernel
theorem dX7_isSame_116 : decode cX7_isSame 116 = .ok (.iadd, 1) := by decide +kernel
theorem dX7_isSame_117 : decode cX7_isSame 117 = .ok (.istore_n 2, 1) := by decide +kernel
theorem dX7_isSame_118 : decode cX7_isSame 118 = .ok (.iinc 4 1, 3) := by decide +kernel
theorem dX7_isSame_121 : decode cX7_isSame 121 = .ok (.goto (-114), 3) := by decide +kernel
theorem dX7_isSame_124 : decode cX7_isSame 124 = .ok (.aload_n 0, 1) := by decide +kernel
theorem dX7_isSame_125 : decode cX7_isSame 125 = .ok (.invokevirtual 93, 3) := by decide +kernel
theorem dX7_isSame_128 : decode cX7_isSame 128 = .ok (.astore 4, 2) := by decide +kernel
theorem dX7_isSame_130 : decode cX7_isSame 130 = .ok (.aload 4, 2) := by decide +kernel
theorem dX7_isSame_132 : decode cX7_isSame 132 = .ok (.invokevirtual 97, 3) := by decide +kernel
theorem dX7_isSame_135 : decode cX7_isSame 135 = .ok (.pop, 1) := by decide +kernel
theorem dX7_isSame_136 : decode cX7_isSame 136 = .ok (.iconst 0, 1) := by decide +kernel
theorem dX7_isSame_137 : decode cX7_isSame 137 = .ok (.istore 5, 2) := by decide +kernel
theorem dX7_isSame_139 : decode cX7_isSame 139 = .ok (.iload 5, 2) := by decide +kernel
theorem dX7_isSame_141 : decode cX7_isSame 141 = .ok (.iconst 2, 1) := by decide +kernel
theorem dX7_isSame_142 : decode cX7_isSame 142 = .ok (.if_icmp .ge 369, 3) := by decide +kernel
theorem dX7_isSame_145 : decode cX7_isSame 145 = .ok (.iconst 0, 1) := by decide +kernel
theorem dX7_isSame_146 : decode cX7_isSame 146 = .ok (.istore 6, 2) := by decide +kernel
theorem dX7_isSame_148 : decode cX7_isSame 148 = .ok (.iconst 0, 1) := by decide +kernel
theorem dX7_isSame_149 : decode cX7_isSame 149 = .ok (.istore 7, 2) := by decide +kernel
theorem dX7_isSame_151 : decode cX7_isSame 151 = .ok (.iload 7, 2) := by decide +kernel
theorem dX7_isSame_153 : decode cX7_isSame 153 = .ok (.aload_n 0, 1) := by decide +kernel
theorem dX7_isSame_154 : decode cX7_isSame 154 = .ok (.getfield 17, 3) := by decide +kernel
theorem dX7_isSame_157 : decode cX7_isSame 157 = .ok (.iload 5, 2) := by decide +kernel
theorem dX7_isSame_159 : decode cX7_isSame 159 = .ok (.aaload, 1) := by decide +kernel
theorem dX7_isSame_160 : decode cX7_isSame 160 = .ok (.arraylength, 1) := by decide +kernel
theorem dX7_isSame_161 : decode cX7_isSame 161 = .ok (.if_icmp .ge 81, 3) := by decide +kernel
theorem dX7_isSame_164 : decode cX7_isSame 164 = .ok (.aload_n 0, 1) := by decide +kernel
theorem dX7_isSame_165 : decode cX7_isSame 165 = .ok (.getfield 17, 3) := by decide +kernel
theorem dX7_isSame_168 : decode cX7_isSame 168 = .ok (.iload 5, 2) := by decide +kernel
theorem dX7_isSame_170 : decode cX7_isSame 170 = .ok (.aaload, 1) := by decide +kernel
theorem dX7_isSame_171 : decode cX7_isSame 171 = .ok (.iload 7, 2) := by decide +kernel
theorem dX7_isSame_173 : decode cX7_isSame 173 = .ok (.iaload, 1) := by decide +kernel
theorem dX7_isSame_174 : decode cX7_isSame 174 = .ok (.istore 8, 2) := by decide +kernel
theorem dX7_isSame_176 : decode cX7_isSame 176 = .ok (.aload_n 1, 1) := by decide +kernel
theorem dX7_isSame_177 : decode cX7_isSame 177 = .ok (.iload 5, 2) := by decide +kernel
theorem dX7_isSame_179 : decode cX7_isSame 179 = .ok (.iload 7, 2) := by decide +kernel
theorem dX7_isSame_181 : decode cX7_isSame 181 = .ok (.invokevirtual 101, 3) := by decide +kernel
theorem dX7_isSame_184 : decode cX7_isSame 184 = .ok (.aload_n 0, 1) := by decide +kernel
theorem dX7_isSame_185 : decode cX7_isSame 185 = .ok (.getfield 7, 3) := by decide +kernel
theorem dX7_isSame_188 : decode cX7_isSame 188 = .ok (.iload 8, 2) := by decide +kernel
theorem dX7_isSame_190 : decode cX7_isSame 190 = .ok (.iaload, 1) := by decide +kernel
theorem dX7_isSame_191 : decode cX7_isSame 191 = .ok (.if_icmp .ne 21, 3) := by decide +kernel
theorem dX7_isSame_194 : decode cX7_isSame 194 = .ok (.aload_n 1, 1) := by decide +kernel
theorem dX7_isSame_195 : decode cX7_isSame 195 = .ok (.iload 5, 2) := by decide +kernel
theorem dX7_isSame_197 : decode cX7_isSame 197 = .ok (.iload 7, 2) := by decide +kernel
theorem dX7_isSame_199 : decode cX7_isSame 199 = .ok (.invokevirtual 106, 3) := by decide +kernel
theorem dX7_isSame_202 : decode cX7_isSame 202 = .ok (.aload_n 0, 1) := by decide +kernel
theorem dX7_isSame_203 : decode cX7_isSame 203 = .ok (.getfield 13, 3) := by decide +kernel
theorem dX7_isSame_206 : decode cX7_isSame 206 = .ok (.iload 8, 2) := by decide +kernel
theorem dX7_isSame_208 : decode cX7_isSame 208 = .ok (.iaload, 1) := by decide +kernel
theorem dX7_isSame_209 : decode cX7_isSame 209 = .ok (.if_icmp .eq 5, 3) := by decide +kernel
theorem dX7_isSame_212 : decode cX7_isSame 212 = .ok (.iconst 0, 1) := by decide +kernel
theorem dX7_isSame_213 : decode cX7_isSame 213 = .ok (.ireturn, 1) := by decide +kernel
theorem dX7_isSame_214 : decode cX7_isSame 214 = .ok (.iload 6, 2) := by decide +kernel
theorem dX7_isSame_216 : decode cX7_isSame 216 = .ok (.aload_n 0, 1) := by decide +kernel
theorem dX7_isSame_217 : decode cX7_isSame 217 = .ok (.getfield 13, 3) := by decide +kernel
theorem dX7_isSame_220 : decode cX7_isSame 220 = .ok (.iload 8, 2) := by decide +kernel
theorem dX7_isSame_222 : decode cX7_isSame 222 = .ok (.iaload, 1) := by decide +kernel
theorem dX7_isSame_223 : decode cX7_isSame 223 = .ok (.iload 5, 2) := by decide +kernel
theorem dX7_isSame_225 : decode cX7_isSame 225 = .ok (.if_icmp .ne 7, 3) := by decide +kernel
theorem dX7_isSame_228 : decode cX7_isSame 228 = .ok (.iconst 1, 1) := by decide +kernel
theorem dX7_isSame_229 : decode cX7_isSame 229 = .ok (.goto 4, 3) := by decide +kernel
theorem dX7_isSame_232 : decode cX7_isSame 232 = .ok (.iconst 0, 1) := by decide +kernel
theorem dX7_isSame_233 : decode cX7_isSame 233 = .ok (.iadd, 1) := by decide +kernel
theorem dX7_isSame_234 : decode cX7_isSame 234 = .ok (.istore 6, 2) := by decide +kernel
theorem dX7_isSame_236 : decode cX7_isSame 236 = .ok (.iinc 7 1, 3) := by decide +kernel
theorem dX7_isSame_239 : decode cX7_isSame 239 = .ok (.goto (-88), 3) := by decide +kernel
theorem dX7_isSame_242 : decode cX7_isSame 242 = .ok (.bipush 7, 2) := by decide +kernel
theorem dX7_isSame_244 : decode cX7_isSame 244 = .ok (.newarray .int, 2) := by decide +kernel
theorem dX7_isSame_246 : decode cX7_isSame 246 = .ok (.dup, 1) := by decide +kernel
theorem dX7_isSame_247 : decode cX7_isSame 247 = .ok (.iconst 0, 1) := by decide +kernel
theorem dX7_isSame_248 : decode cX7_isSame 248 = .ok (.aload_n 0, 1) := by decide +kernel
theorem dX7_isSame_249 : decode cX7_isSame 249 = .ok (.getfield 17, 3) := by decide +kernel
theorem dX7_isSame_252 : decode cX7_isSame 252 = .ok (.iload 5, 2) := by decide +kernel
theorem dX7_isSame_254 : decode cX7_isSame 254 = .ok (.aaload, 1) := by decide +kernel
theorem dX7_isSame_255 : decode cX7_isSame 255 = .ok (.arraylength, 1) := by decide +kernel
theorem dX7_isSame_256 : decode cX7_isSame 256 = .ok (.iastore, 1) := by decide +kernel
theorem dX7_isSame_257 : decode cX7_isSame 257 = .ok (.dup, 1) := by decide +kernel
theorem dX7_isSame_258 : decode cX7_isSame 258 = .ok (.iconst 1, 1) := by decide +kernel
theorem dX7_isSame_259 : decode cX7_isSame 259 = .ok (.aload_n 0, 1) := by decide +kernel
theorem dX7_isSame_260 : decode cX7_isSame 260 = .ok (.getfield 29, 3) := by decide +kernel
