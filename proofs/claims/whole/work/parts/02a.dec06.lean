theorem dX6_digestOfScribe_0 : decode cX6_digestOfScribe 0 = .ok (.lload_n 1, 1) := by decide +kernel
theorem dX6_digestOfScribe_1 : decode cX6_digestOfScribe 1 = .ok (.lstore 4, 2) := by decide +kernel
theorem dX6_digestOfScribe_3 : decode cX6_digestOfScribe 3 = .ok (.iconst 0, 1) := by decide +kernel
theorem dX6_digestOfScribe_4 : decode cX6_digestOfScribe 4 = .ok (.istore 6, 2) := by decide +kernel
theorem dX6_digestOfScribe_6 : decode cX6_digestOfScribe 6 = .ok (.iload 6, 2) := by decide +kernel
theorem dX6_digestOfScribe_8 : decode cX6_digestOfScribe 8 = .ok (.bipush 6, 2) := by decide +kernel
theorem dX6_digestOfScribe_10 : decode cX6_digestOfScribe 10 = .ok (.if_icmp .gt 26, 3) := by decide +kernel
theorem dX6_digestOfScribe_13 : decode cX6_digestOfScribe 13 = .ok (.lload 4, 2) := by decide +kernel
theorem dX6_digestOfScribe_15 : decode cX6_digestOfScribe 15 = .ok (.ldc2_w 227, 3) := by decide +kernel
theorem dX6_digestOfScribe_18 : decode cX6_digestOfScribe 18 = .ok (.lmul, 1) := by decide +kernel
theorem dX6_digestOfScribe_19 : decode cX6_digestOfScribe 19 = .ok (.aload_n 0, 1) := by decide +kernel
theorem dX6_digestOfScribe_20 : decode cX6_digestOfScribe 20 = .ok (.iload_n 3, 1) := by decide +kernel
theorem dX6_digestOfScribe_21 : decode cX6_digestOfScribe 21 = .ok (.iload 6, 2) := by decide +kernel
theorem dX6_digestOfScribe_23 : decode cX6_digestOfScribe 23 = .ok (.invokevirtual 296, 3) := by decide +kernel
theorem dX6_digestOfScribe_26 : decode cX6_digestOfScribe 26 = .ok (.i2l, 1) := by decide +kernel
theorem dX6_digestOfScribe_27 : decode cX6_digestOfScribe 27 = .ok (.ladd, 1) := by decide +kernel
theorem dX6_digestOfScribe_28 : decode cX6_digestOfScribe 28 = .ok (.lstore 4, 2) := by decide +kernel
theorem dX6_digestOfScribe_30 : decode cX6_digestOfScribe 30 = .ok (.iinc 6 1, 3) := by decide +kernel
theorem dX6_digestOfScribe_33 : decode cX6_digestOfScribe 33 = .ok (.goto (-27), 3) := by decide +kernel
theorem dX6_digestOfScribe_36 : decode cX6_digestOfScribe 36 = .ok (.aload_n 0, 1) := by decide +kernel
theorem dX6_digestOfScribe_37 : decode cX6_digestOfScribe 37 = .ok (.iload_n 3, 1) := by decide +kernel
theorem dX6_digestOfScribe_38 : decode cX6_digestOfScribe 38 = .ok (.iconst 0, 1) := by decide +kernel
theorem dX6_digestOfScribe_39 : decode cX6_digestOfScribe 39 = .ok (.invokevirtual 296, 3) := by decide +kernel
theorem dX6_digestOfScribe_42 : decode cX6_digestOfScribe 42 = .ok (.istore 6, 2) := by decide +kernel
theorem dX6_digestOfScribe_44 : decode cX6_digestOfScribe 44 = .ok (.iconst 0, 1) := by decide +kernel
theorem dX6_digestOfScribe_45 : decode cX6_digestOfScribe 45 = .ok (.istore 7, 2) := by decide +kernel
theorem dX6_digestOfScribe_47 : decode cX6_digestOfScribe 47 = .ok (.iload 7, 2) := by decide +kernel
theorem dX6_digestOfScribe_49 : decode cX6_digestOfScribe 49 = .ok (.iload 6, 2) := by decide +kernel
theorem dX6_digestOfScribe_51 : decode cX6_digestOfScribe 51 = .ok (.if_icmp .ge 43, 3) := by decide +kernel
theorem dX6_digestOfScribe_54 : decode cX6_digestOfScribe 54 = .ok (.lload 4, 2) := by decide +kernel
theorem dX6_digestOfScribe_56 : decode cX6_digestOfScribe 56 = .ok (.ldc2_w 227, 3) := by decide +kernel
theorem dX6_digestOfScribe_59 : decode cX6_digestOfScribe 59 = .ok (.lmul, 1) := by decide +kernel
theorem dX6_digestOfScribe_60 : decode cX6_digestOfScribe 60 = .ok (.aload_n 0, 1) := by decide +kernel
theorem dX6_digestOfScribe_61 : decode cX6_digestOfScribe 61 = .ok (.iload_n 3, 1) := by decide +kernel
theorem dX6_digestOfScribe_62 : decode cX6_digestOfScribe 62 = .ok (.iload 7, 2) := by decide +kernel
theorem dX6_digestOfScribe_64 : decode cX6_digestOfScribe 64 = .ok (.invokevirtual 299, 3) := by decide +kernel
theorem dX6_digestOfScribe_67 : decode cX6_digestOfScribe 67 = .ok (.i2l, 1) := by decide +kernel
theorem dX6_digestOfScribe_68 : decode cX6_digestOfScribe 68 = .ok (.ladd, 1) := by decide +kernel
theorem dX6_digestOfScribe_69 : decode cX6_digestOfScribe 69 = .ok (.lstore 4, 2) := by decide +kernel
theorem dX6_digestOfScribe_71 : decode cX6_digestOfScribe 71 = .ok (.lload 4, 2) := by decide +kernel
theorem dX6_digestOfScribe_73 : decode cX6_digestOfScribe 73 = .ok (.ldc2_w 227, 3) := by decide +kernel
theorem dX6_digestOfScribe_76 : decode cX6_digestOfScribe 76 = .ok (.lmul, 1) := by decide +kernel
theorem dX6_digestOfScribe_77 : decode cX6_digestOfScribe 77 = .ok (.aload_n 0, 1) := by decide +kernel
theorem dX6_digestOfScribe_78 : decode cX6_digestOfScribe 78 = .ok (.iload_n 3, 1) := by decide +kernel
theorem dX6_digestOfScribe_79 : decode cX6_digestOfScribe 79 = .ok (.iload 7, 2) := by decide +kernel
theorem dX6_digestOfScribe_81 : decode cX6_digestOfScribe 81 = .ok (.invokevirtual 301, 3) := by decide +kernel
theorem dX6_digestOfScribe_84 : decode cX6_digestOfScribe 84 = .ok (.i2l, 1) := by decide +kernel
theorem dX6_digestOfScribe_85 : decode cX6_digestOfScribe 85 = .ok (.ladd, 1) := by decide +kernel
theorem dX6_digestOfScribe_86 : decode cX6_digestOfScribe 86 = .ok (.lstore 4, 2) := by decide +kernel
theorem dX6_digestOfScribe_88 : decode cX6_digestOfScribe 88 = .ok (.iinc 7 1, 3) := by decide +kernel
theorem dX6_digestOfScribe_91 : decode cX6_digestOfScribe 91 = .ok (.goto (-44), 3) := by decide +kernel
theorem dX6_digestOfScribe_94 : decode cX6_digestOfScribe 94 = .ok (.aload_n 0, 1) := by decide +kernel
theorem dX6_digestOfScribe_95 : decode cX6_digestOfScribe 95 = .ok (.iload_n 3, 1) := by decide +kernel
theorem dX6_digestOfScribe_96 : decode cX6_digestOfScribe 96 = .ok (.iconst 3, 1) := by decide +kernel
theorem dX6_digestOfScribe_97 : decode cX6_digestOfScribe 97 = .ok (.invokevirtual 296, 3) := by decide +kernel
theorem dX6_digestOfScribe_100 : decode cX6_digestOfScribe 100 = .ok (.istore 7, 2) := by decide +kernel
theorem dX6_digestOfScribe_102 : decode cX6_digestOfScribe 102 = .ok (.iconst 0, 1) := by decide +kernel
theorem dX6_digestOfScribe_103 : decode cX6_digestOfScribe 103 = .ok (.istore 8, 2) := by decide +kernel
theorem dX6_digestOfScribe_105 : decode cX6_digestOfScribe 105 = .ok (.iload 8, 2) := by decide +kernel
theorem dX6_digestOfScribe_107 : decode cX6_digestOfScribe 107 = .ok (.iload 7, 2) := by decide +kernel
theorem dX6_digestOfScribe_109 : decode cX6_digestOfScribe 109 = .ok (.if_icmp .ge 43, 3) := by decide +kernel
theorem dX6_digestOfScribe_112 : decode cX6_digestOfScribe 112 = .ok (.iconst 0, 1) := by decide +kernel
theorem dX6_digestOfScribe_113 : decode cX6_digestOfScribe 113 = .ok (.istore 9, 2) := by decide +kernel
theorem dX6_digestOfScribe_115 : decode cX6_digestOfScribe 115 = .ok (.iload 9, 2) := by decide +kernel
theorem dX6_digestOfScribe_117 : decode cX6_digestOfScribe 117 = .ok (.iconst 3, 1) := by decide +kernel
theorem dX6_digestOfScribe_118 : decode cX6_digestOfScribe 118 = .ok (.if_icmp .gt 28, 3) := by decide +kernel
theorem dX6_digestOfScribe_121 : decode cX6_digestOfScribe 121 = .ok (.lload 4, 2) := by decide +kernel
theorem dX6_digestOfScribe_123 : decode cX6_digestOfScribe 123 = .ok (.ldc2_w 227, 3) := by decide +kernel
theorem dX6_digestOfScribe_126 : decode cX6_digestOfScribe 126 = .ok (.lmul, 1) := by decide +kernel
theorem dX6_digestOfScribe_127 : decode cX6_digestOfScribe 127 = .ok (.aload_n 0, 1) := by decide +kernel
theorem dX6_digestOfScribe_128 : decode cX6_digestOfScribe 128 = .ok (.iload_n 3, 1) := by decide +kernel
theorem dX6_digestOfScribe_129 : decode cX6_digestOfScribe 129 = .ok (.iload 8, 2) := by decide +kernel
theorem dX6_digestOfScribe_131 : decode cX6_digestOfScribe 131 = .ok (.iload 9, 2) := by decide +kernel
theorem dX6_digestOfScribe_133 : decode cX6_digestOfScribe 133 = .ok (.invokevirtual 304, 3) := by decide +kernel
theorem dX6_digestOfScribe_136 : decode cX6_digestOfScribe 136 = .ok (.i2l, 1) := by decide +kernel
theorem dX6_digestOfScribe_137 : decode cX6_digestOfScribe 137 = .ok (.ladd, 1) := by decide +kernel
theorem dX6_digestOfScribe_138 : decode cX6_digestOfScribe 138 = .ok (.lstore 4, 2) := by decide +kernel
theorem dX6_digestOfScribe_140 : decode cX6_digestOfScribe 140 = .ok (.iinc 9 1, 3) := by decide +kernel
theorem dX6_digestOfScribe_143 : decode cX6_digestOfScribe 143 = .ok (.goto (-28), 3) := by decide +kernel
theorem dX6_digestOfScribe_146 : decode cX6_digestOfScribe 146 = .ok (.iinc 8 1, 3) := by decide +kernel
theorem dX6_digestOfScribe_149 : decode cX6_digestOfScribe 149 = .ok (.goto (-44), 3) := by decide +kernel
theorem dX6_digestOfScribe_152 : decode cX6_digestOfScribe 152 = .ok (.lload 4, 2) := by decide +kernel
theorem dX6_digestOfScribe_154 : decode cX6_digestOfScribe 154 = .ok (.ldc2_w 227, 3) := by decide +kernel
theorem dX6_digestOfScribe_157 : decode cX6_digestOfScribe 157 = .ok (.lmul, 1) := by decide +kernel
theorem dX6_digestOfScribe_158 : decode cX6_digestOfScribe 158 = .ok (.aload_n 0, 1) := by decide +kernel
theorem dX6_digestOfScribe_159 : decode cX6_digestOfScribe 159 = .ok (.iload_n 3, 1) := by decide +kernel
theorem dX6_digestOfScribe_160 : decode cX6_digestOfScribe 160 = .ok (.invokevirtual 126, 3) := by decide +kernel
theorem dX6_digestOfScribe_163 : decode cX6_digestOfScribe 163 = .ok (.i2l, 1) := by decide +kernel
theorem dX6_digestOfScribe_164 : decode cX6_digestOfScribe 164 = .ok (.ladd, 1) := by decide +kernel
theorem dX6_digestOfScribe_165 : decode cX6_digestOfScribe 165 = .ok (.lreturn, 1) := by decide +kernel
theorem dX7_init_0 : decode cX7_init 0 = .ok (.aload_n 0, 1) := by decide +kernel
theorem dX7_init_1 : decode cX7_init 1 = .ok (.invokespecial 1, 3) := by decide +kernel
theorem dX7_init_4 : decode cX7_init 4 = .ok (.aload_n 0, 1) := by decide +kernel
theorem dX7_init_5 : decode cX7_init 5 = .ok (.iconst 2, 1) := by decide +kernel
theorem dX7_init_6 : decode cX7_init 6 = .ok (.sipush 128, 3) := by decide +kernel
theorem dX7_init_9 : decode cX7_init 9 = .ok (.multianewarray 9 2, 4) := by decide +kernel
theorem dX7_init_13 : decode cX7_init 13 = .ok (.putfield 11, 3) := by decide +kernel
theorem dX7_init_16 : decode cX7_init 16 = .ok (.aload_n 0, 1) := by decide +kernel
theorem dX7_init_17 : decode cX7_init 17 = .ok (.iconst 2, 1) := by decide +kernel
theorem dX7_init_18 : decode cX7_init 18 = .ok (.bipush 52, 2) := by decide +kernel
theorem dX7_init_20 : decode cX7_init 20 = .ok (.multianewarray 9 2, 4) := by decide +kernel
theorem dX7_init_24 : decode cX7_init 24 = .ok (.putfield 14, 3) := by decide +kernel
theorem dX7_init_27 : decode cX7_init 27 = .ok (.aload_n 0, 1) := by decide +kernel
theorem dX7_init_28 : decode cX7_init 28 = .ok (.iconst 2, 1) := by decide +kernel
theorem dX7_init_29 : decode cX7_init 29 = .ok (.bipush 6, 2) := by decide +kernel
theorem dX7_init_31 : decode cX7_init 31 = .ok (.multianewarray 9 2, 4) := by decide +kernel
theorem dX7_init_35 : decode cX7_init 35 = .ok (.putfield 17, 3) := by decide +kernel
theorem dX7_init_38 : decode cX7_init 38 = .ok (.aload_n 0, 1) := by decide +kernel
theorem dX7_init_39 : decode cX7_init 39 = .ok (.iconst 2, 1) := by decide +kernel
theorem dX7_init_40 : decode cX7_init 40 = .ok (.anewarray 20, 3) := by decide +kernel
theorem dX7_init_43 : decode cX7_init 43 = .ok (.dup, 1) := by decide +kernel
theorem dX7_init_44 : decode cX7_init 44 = .ok (.iconst 0, 1) := by decide +kernel
theorem dX7_init_45 : decode cX7_init 45 = .ok (.bipush 30, 2) := by decide +kernel
theorem dX7_init_47 : decode cX7_init 47 = .ok (.newarray .int, 2) := by decide +kernel
theorem dX7_init_49 : decode cX7_init 49 = .ok (.aastore, 1) := by decide +kernel
theorem dX7_init_50 : decode cX7_init 50 = .ok (.dup, 1) := by decide +kernel
theorem dX7_init_51 : decode cX7_init 51 = .ok (.iconst 1, 1) := by decide +kernel
theorem dX7_init_52 : decode cX7_init 52 = .ok (.bipush 30, 2) := by decide +kernel
theorem dX7_init_54 : decode cX7_init 54 = .ok (.newarray .int, 2) := by decide +kernel
theorem dX7_init_56 : decode cX7_init 56 = .ok (.aastore, 1) := by decide +kernel
theorem dX7_init_57 : decode cX7_init 57 = .ok (.putfield 22, 3) := by decide +kernel
theorem dX7_init_60 : decode cX7_init 60 = .ok (.return_, 1) := by decide +kernel
theorem dX7_thrown_0 : decode cX7_thrown 0 = .ok (.aload_n 0, 1) := by decide +kernel
theorem dX7_thrown_1 : decode cX7_thrown 1 = .ok (.getfield 25, 3) := by decide +kernel
theorem dX7_thrown_4 : decode cX7_thrown 4 = .ok (.ireturn, 1) := by decide +kernel
theorem dX7_fail_0 : decode cX7_fail 0 = .ok (.aload_n 0, 1) := by decide +kernel
theorem dX7_fail_1 : decode cX7_fail 1 = .ok (.iload_n 1, 1) := by decide +kernel
theorem dX7_fail_2 : decode cX7_fail 2 = .ok (.putfield 25, 3) := by decide +kernel
theorem dX7_fail_5 : decode cX7_fail 5 = .ok (.iconst 0, 1) := by decide +kernel
theorem dX7_fail_6 : decode cX7_fail 6 = .ok (.ireturn, 1) := by decide +kernel
theorem dX7_isIn_0 : decode cX7_isIn 0 = .ok (.iload_n 0, 1) := by decide +kernel
theorem dX7_isIn_1 : decode cX7_isIn 1 = .ok (.iload_n 1, 1) := by decide +kernel
theorem dX7_isIn_2 : decode cX7_isIn 2 = .ok (.if_icmp .lt 12, 3) := by decide +kernel
theorem dX7_isIn_5 : decode cX7_isIn 5 = .ok (.iload_n 0, 1) := by decide +kernel
theorem dX7_isIn_6 : decode cX7_isIn 6 = .ok (.iload_n 2, 1) := by decide +kernel
theorem dX7_isIn_7 : decode cX7_isIn 7 = .ok (.if_icmp .gt 7, 3) := by decide +kernel
theorem dX7_isIn_10 : decode cX7_isIn 10 = .ok (.iconst 1, 1) := by decide +kernel
theorem dX7_isIn_11 : decode cX7_isIn 11 = .ok (.goto 4, 3) := by decide +kernel
theorem dX7_isIn_14 : decode cX7_isIn 14 = .ok (.iconst 0, 1) := by decide +kernel
theorem dX7_isIn_15 : decode cX7_isIn 15 = .ok (.ireturn, 1) := by decide +kernel
theorem dX7_isScribe_0 : decode cX7_isScribe 0 = .ok (.iload_n 0, 1) := by decide +kernel
theorem dX7_isScribe_1 : decode cX7_isScribe 1 = .ok (.iconst 0, 1) := by decide +kernel
theorem dX7_isScribe_2 : decode cX7_isScribe 2 = .ok (.iconst 1, 1) := by decide +kernel
theorem dX7_isScribe_3 : decode cX7_isScribe 3 = .ok (.invokestatic 29, 3) := by decide +kernel
theorem dX7_isScribe_6 : decode cX7_isScribe 6 = .ok (.ireturn, 1) := by decide +kernel
theorem dX7_hasLetter_0 : decode cX7_hasLetter 0 = .ok (.iload_n 1, 1) := by decide +kernel
theorem dX7_hasLetter_1 : decode cX7_hasLetter 1 = .ok (.invokestatic 33, 3) := by decide +kernel
theorem dX7_hasLetter_4 : decode cX7_hasLetter 4 = .ok (.ifCond .eq 25, 3) := by decide +kernel
theorem dX7_hasLetter_7 : decode cX7_hasLetter 7 = .ok (.iload_n 2, 1) := by decide +kernel
theorem dX7_hasLetter_8 : decode cX7_hasLetter 8 = .ok (.iconst 0, 1) := by decide +kernel
theorem dX7_hasLetter_9 : decode cX7_hasLetter 9 = .ok (.aload_n 0, 1) := by decide +kernel
theorem dX7_hasLetter_10 : decode cX7_hasLetter 10 = .ok (.getfield 17, 3) := by decide +kernel
theorem dX7_hasLetter_13 : decode cX7_hasLetter 13 = .ok (.iload_n 1, 1) := by decide +kernel
theorem dX7_hasLetter_14 : decode cX7_hasLetter 14 = .ok (.aaload, 1) := by decide +kernel
theorem dX7_hasLetter_15 : decode cX7_hasLetter 15 = .ok (.iconst 0, 1) := by decide +kernel
theorem dX7_hasLetter_16 : decode cX7_hasLetter 16 = .ok (.iaload, 1) := by decide +kernel
theorem dX7_hasLetter_17 : decode cX7_hasLetter 17 = .ok (.iconst 1, 1) := by decide +kernel
theorem dX7_hasLetter_18 : decode cX7_hasLetter 18 = .ok (.isub, 1) := by decide +kernel
theorem dX7_hasLetter_19 : decode cX7_hasLetter 19 = .ok (.invokestatic 29, 3) := by decide +kernel
theorem dX7_hasLetter_22 : decode cX7_hasLetter 22 = .ok (.ifCond .eq 7, 3) := by decide +kernel
theorem dX7_hasLetter_25 : decode cX7_hasLetter 25 = .ok (.iconst 1, 1) := by decide +kernel
theorem dX7_hasLetter_26 : decode cX7_hasLetter 26 = .ok (.goto 4, 3) := by decide +kernel
theorem dX7_hasLetter_29 : decode cX7_hasLetter 29 = .ok (.iconst 0, 1) := by decide +kernel
theorem dX7_hasLetter_30 : decode cX7_hasLetter 30 = .ok (.ireturn, 1) := by decide +kernel
theorem dX7_letterOf_0 : decode cX7_letterOf 0 = .ok (.iload_n 0, 1) := by decide +kernel
theorem dX7_letterOf_1 : decode cX7_letterOf 1 = .ok (.bipush 26, 2) := by decide +kernel
theorem dX7_letterOf_3 : decode cX7_letterOf 3 = .ok (.irem, 1) := by decide +kernel
theorem dX7_letterOf_4 : decode cX7_letterOf 4 = .ok (.ireturn, 1) := by decide +kernel
theorem dX7_authorOf_0 : decode cX7_authorOf 0 = .ok (.iload_n 0, 1) := by decide +kernel
theorem dX7_authorOf_1 : decode cX7_authorOf 1 = .ok (.bipush 26, 2) := by decide +kernel
theorem dX7_authorOf_3 : decode cX7_authorOf 3 = .ok (.idiv, 1) := by decide +kernel
theorem dX7_authorOf_4 : decode cX7_authorOf 4 = .ok (.iconst 2, 1) := by decide +kernel
theorem dX7_authorOf_5 : decode cX7_authorOf 5 = .ok (.irem, 1) := by decide +kernel
theorem dX7_authorOf_6 : decode cX7_authorOf 6 = .ok (.ireturn, 1) := by decide +kernel
theorem dX7_sign_0 : decode cX7_sign 0 = .ok (.aload_n 0, 1) := by decide +kernel
theorem dX7_sign_1 : decode cX7_sign 1 = .ok (.dup, 1) := by decide +kernel
theorem dX7_sign_2 : decode cX7_sign 2 = .ok (.getfield 37, 3) := by decide +kernel
theorem dX7_sign_5 : decode cX7_sign 5 = .ok (.iconst 1, 1) := by decide +kernel
theorem dX7_sign_6 : decode cX7_sign 6 = .ok (.iadd, 1) := by decide +kernel
theorem dX7_sign_7 : decode cX7_sign 7 = .ok (.putfield 37, 3) := by decide +kernel
theorem dX7_sign_10 : decode cX7_sign 10 = .ok (.iconst 2, 1) := by decide +kernel
theorem dX7_sign_11 : decode cX7_sign 11 = .ok (.aload_n 0, 1) := by decide +kernel
theorem dX7_sign_12 : decode cX7_sign 12 = .ok (.getfield 37, 3) := by decide +kernel
theorem dX7_sign_15 : decode cX7_sign 15 = .ok (.imul, 1) := by decide +kernel
theorem dX7_sign_16 : decode cX7_sign 16 = .ok (.iload_n 1, 1) := by decide +kernel
theorem dX7_sign_17 : decode cX7_sign 17 = .ok (.iadd, 1) := by decide +kernel
theorem dX7_sign_18 : decode cX7_sign 18 = .ok (.bipush 26, 2) := by decide +kernel
theorem dX7_sign_20 : decode cX7_sign 20 = .ok (.imul, 1) := by decide +kernel
theorem dX7_sign_21 : decode cX7_sign 21 = .ok (.iload_n 2, 1) := by decide +kernel
theorem dX7_sign_22 : decode cX7_sign 22 = .ok (.iadd, 1) := by decide +kernel
theorem dX7_sign_23 : decode cX7_sign 23 = .ok (.ireturn, 1) := by decide +kernel
theorem dX7_isAhead_0 : decode cX7_isAhead 0 = .ok (.aload_n 1, 1) := by decide +kernel
theorem dX7_isAhead_1 : decode cX7_isAhead 1 = .ok (.iconst 2, 1) := by decide +kernel
theorem dX7_isAhead_2 : decode cX7_isAhead 2 = .ok (.iaload, 1) := by decide +kernel
theorem dX7_isAhead_3 : decode cX7_isAhead 3 = .ok (.aload_n 3, 1) := by decide +kernel
theorem dX7_isAhead_4 : decode cX7_isAhead 4 = .ok (.iconst 2, 1) := by decide +kernel
theorem dX7_isAhead_5 : decode cX7_isAhead 5 = .ok (.iaload, 1) := by decide +kernel
theorem dX7_isAhead_6 : decode cX7_isAhead 6 = .ok (.if_icmp .eq 15, 3) := by decide +kernel
theorem dX7_isAhead_9 : decode cX7_isAhead 9 = .ok (.aload_n 1, 1) := by decide +kernel
theorem dX7_isAhead_10 : decode cX7_isAhead 10 = .ok (.iconst 2, 1) := by decide +kernel
theorem dX7_isAhead_11 : decode cX7_isAhead 11 = .ok (.iaload, 1) := by decide +kernel
theorem dX7_isAhead_12 : decode cX7_isAhead 12 = .ok (.ifCond .ne 7, 3) := by decide +kernel
theorem dX7_isAhead_15 : decode cX7_isAhead 15 = .ok (.iconst 1, 1) := by decide +kernel
theorem dX7_isAhead_16 : decode cX7_isAhead 16 = .ok (.goto 4, 3) := by decide +kernel
theorem dX7_isAhead_19 : decode cX7_isAhead 19 = .ok (.iconst 0, 1) := by decide +kernel
theorem dX7_isAhead_20 : decode cX7_isAhead 20 = .ok (.ireturn, 1) := by decide +kernel
theorem dX7_isAhead_21 : decode cX7_isAhead 21 = .ok (.aload_n 0, 1) := by decide +kernel
theorem dX7_isAhead_22 : decode cX7_isAhead 22 = .ok (.getfield 40, 3) := by decide +kernel
theorem dX7_isAhead_25 : decode cX7_isAhead 25 = .ok (.iconst 2, 1) := by decide +kernel
theorem dX7_isAhead_26 : decode cX7_isAhead 26 = .ok (.if_icmp .ge 17, 3) := by decide +kernel
theorem dX7_isAhead_29 : decode cX7_isAhead 29 = .ok (.iload_n 2, 1) := by decide +kernel
theorem dX7_isAhead_30 : decode cX7_isAhead 30 = .ok (.aload_n 0, 1) := by decide +kernel
theorem dX7_isAhead_31 : decode cX7_isAhead 31 = .ok (.getfield 40, 3) := by decide +kernel
theorem dX7_isAhead_34 : decode cX7_isAhead 34 = .ok (.if_icmp .ne 7, 3) := by decide +kernel
theorem dX7_isAhead_37 : decode cX7_isAhead 37 = .ok (.iconst 1, 1) := by decide +kernel
theorem dX7_isAhead_38 : decode cX7_isAhead 38 = .ok (.goto 4, 3) := by decide +kernel
theorem dX7_isAhead_41 : decode cX7_isAhead 41 = .ok (.iconst 0, 1) := by decide +kernel
theorem dX7_isAhead_42 : decode cX7_isAhead 42 = .ok (.ireturn, 1) := by decide +kernel
theorem dX7_isAhead_43 : decode cX7_isAhead 43 = .ok (.aload_n 1, 1) := by decide +kernel
theorem dX7_isAhead_44 : decode cX7_isAhead 44 = .ok (.iconst 3, 1) := by decide +kernel
theorem dX7_isAhead_45 : decode cX7_isAhead 45 = .ok (.iaload, 1) := by decide +kernel
theorem dX7_isAhead_46 : decode cX7_isAhead 46 = .ok (.invokestatic 43, 3) := by decide +kernel
theorem dX7_isAhead_49 : decode cX7_isAhead 49 = .ok (.aload_n 3, 1) := by decide +kernel
theorem dX7_isAhead_50 : decode cX7_isAhead 50 = .ok (.iconst 3, 1) := by decide +kernel
theorem dX7_isAhead_51 : decode cX7_isAhead 51 = .ok (.iaload, 1) := by decide +kernel
theorem dX7_isAhead_52 : decode cX7_isAhead 52 = .ok (.invokestatic 43, 3) := by decide +kernel
theorem dX7_isAhead_55 : decode cX7_isAhead 55 = .ok (.isub, 1) := by decide +kernel
theorem dX7_isAhead_56 : decode cX7_isAhead 56 = .ok (.istore 4, 2) := by decide +kernel
theorem dX7_isAhead_58 : decode cX7_isAhead 58 = .ok (.iload 4, 2) := by decide +kernel
theorem dX7_isAhead_60 : decode cX7_isAhead 60 = .ok (.ifCond .ne 15, 3) := by decide +kernel
theorem dX7_isAhead_63 : decode cX7_isAhead 63 = .ok (.iload_n 2, 1) := by decide +kernel
theorem dX7_isAhead_64 : decode cX7_isAhead 64 = .ok (.ifCond .ne 7, 3) := by decide +kernel
theorem dX7_isAhead_67 : decode cX7_isAhead 67 = .ok (.iconst 1, 1) := by decide +kernel
theorem dX7_isAhead_68 : decode cX7_isAhead 68 = .ok (.goto 17, 3) := by decide +kernel
theorem dX7_isAhead_71 : decode cX7_isAhead 71 = .ok (.iconst 0, 1) := by decide +kernel
theorem dX7_isAhead_72 : decode cX7_isAhead 72 = .ok (.goto 13, 3) := by decide +kernel
theorem dX7_isAhead_75 : decode cX7_isAhead 75 = .ok (.iload 4, 2) := by decide +kernel
theorem dX7_isAhead_77 : decode cX7_isAhead 77 = .ok (.ifCond .ge 7, 3) := by decide +kernel
theorem dX7_isAhead_80 : decode cX7_isAhead 80 = .ok (.iconst 1, 1) := by decide +kernel
theorem dX7_isAhead_81 : decode cX7_isAhead 81 = .ok (.goto 4, 3) := by decide +kernel
theorem dX7_isAhead_84 : decode cX7_isAhead 84 = .ok (.iconst 0, 1) := by decide +kernel
theorem dX7_isAhead_85 : decode cX7_isAhead 85 = .ok (.ireturn, 1) := by decide +kernel
