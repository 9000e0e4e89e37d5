theorem dX7_moved_0 : decode cX7_moved 0 = .ok (.iconst 4, 1) := by decide +kernel
theorem dX7_moved_1 : decode cX7_moved 1 = .ok (.newarray .int, 2) := by decide +kernel
theorem dX7_moved_3 : decode cX7_moved 3 = .ok (.dup, 1) := by decide +kernel
theorem dX7_moved_4 : decode cX7_moved 4 = .ok (.iconst 0, 1) := by decide +kernel
theorem dX7_moved_5 : decode cX7_moved 5 = .ok (.aload_n 1, 1) := by decide +kernel
theorem dX7_moved_6 : decode cX7_moved 6 = .ok (.iconst 0, 1) := by decide +kernel
theorem dX7_moved_7 : decode cX7_moved 7 = .ok (.iaload, 1) := by decide +kernel
theorem dX7_moved_8 : decode cX7_moved 8 = .ok (.iastore, 1) := by decide +kernel
theorem dX7_moved_9 : decode cX7_moved 9 = .ok (.dup, 1) := by decide +kernel
theorem dX7_moved_10 : decode cX7_moved 10 = .ok (.iconst 1, 1) := by decide +kernel
theorem dX7_moved_11 : decode cX7_moved 11 = .ok (.aload_n 1, 1) := by decide +kernel
theorem dX7_moved_12 : decode cX7_moved 12 = .ok (.iconst 1, 1) := by decide +kernel
theorem dX7_moved_13 : decode cX7_moved 13 = .ok (.iaload, 1) := by decide +kernel
theorem dX7_moved_14 : decode cX7_moved 14 = .ok (.iastore, 1) := by decide +kernel
theorem dX7_moved_15 : decode cX7_moved 15 = .ok (.dup, 1) := by decide +kernel
theorem dX7_moved_16 : decode cX7_moved 16 = .ok (.iconst 2, 1) := by decide +kernel
theorem dX7_moved_17 : decode cX7_moved 17 = .ok (.aload_n 1, 1) := by decide +kernel
theorem dX7_moved_18 : decode cX7_moved 18 = .ok (.iconst 2, 1) := by decide +kernel
theorem dX7_moved_19 : decode cX7_moved 19 = .ok (.iaload, 1) := by decide +kernel
theorem dX7_moved_20 : decode cX7_moved 20 = .ok (.iastore, 1) := by decide +kernel
theorem dX7_moved_21 : decode cX7_moved 21 = .ok (.dup, 1) := by decide +kernel
theorem dX7_moved_22 : decode cX7_moved 22 = .ok (.iconst 3, 1) := by decide +kernel
theorem dX7_moved_23 : decode cX7_moved 23 = .ok (.aload_n 1, 1) := by decide +kernel
theorem dX7_moved_24 : decode cX7_moved 24 = .ok (.iconst 3, 1) := by decide +kernel
theorem dX7_moved_25 : decode cX7_moved 25 = .ok (.iaload, 1) := by decide +kernel
theorem dX7_moved_26 : decode cX7_moved 26 = .ok (.iastore, 1) := by decide +kernel
theorem dX7_moved_27 : decode cX7_moved 27 = .ok (.astore 4, 2) := by decide +kernel
theorem dX7_moved_29 : decode cX7_moved 29 = .ok (.aload_n 1, 1) := by decide +kernel
theorem dX7_moved_30 : decode cX7_moved 30 = .ok (.iconst 0, 1) := by decide +kernel
theorem dX7_moved_31 : decode cX7_moved 31 = .ok (.iaload, 1) := by decide +kernel
theorem dX7_moved_32 : decode cX7_moved 32 = .ok (.ifCond .eq 9, 3) := by decide +kernel
theorem dX7_moved_35 : decode cX7_moved 35 = .ok (.aload_n 3, 1) := by decide +kernel
theorem dX7_moved_36 : decode cX7_moved 36 = .ok (.iconst 0, 1) := by decide +kernel
theorem dX7_moved_37 : decode cX7_moved 37 = .ok (.iaload, 1) := by decide +kernel
theorem dX7_moved_38 : decode cX7_moved 38 = .ok (.ifCond .ne 6, 3) := by decide +kernel
theorem dX7_moved_41 : decode cX7_moved 41 = .ok (.aload 4, 2) := by decide +kernel
theorem dX7_moved_43 : decode cX7_moved 43 = .ok (.areturn, 1) := by decide +kernel
theorem dX7_moved_44 : decode cX7_moved 44 = .ok (.aload_n 3, 1) := by decide +kernel
theorem dX7_moved_45 : decode cX7_moved 45 = .ok (.iconst 0, 1) := by decide +kernel
theorem dX7_moved_46 : decode cX7_moved 46 = .ok (.iaload, 1) := by decide +kernel
theorem dX7_moved_47 : decode cX7_moved 47 = .ok (.iconst 1, 1) := by decide +kernel
theorem dX7_moved_48 : decode cX7_moved 48 = .ok (.if_icmp .ne 65, 3) := by decide +kernel
theorem dX7_moved_51 : decode cX7_moved 51 = .ok (.aload_n 1, 1) := by decide +kernel
theorem dX7_moved_52 : decode cX7_moved 52 = .ok (.iconst 1, 1) := by decide +kernel
theorem dX7_moved_53 : decode cX7_moved 53 = .ok (.iaload, 1) := by decide +kernel
theorem dX7_moved_54 : decode cX7_moved 54 = .ok (.aload_n 3, 1) := by decide +kernel
theorem dX7_moved_55 : decode cX7_moved 55 = .ok (.iconst 1, 1) := by decide +kernel
theorem dX7_moved_56 : decode cX7_moved 56 = .ok (.iaload, 1) := by decide +kernel
theorem dX7_moved_57 : decode cX7_moved 57 = .ok (.if_icmp .lt 29, 3) := by decide +kernel
theorem dX7_moved_60 : decode cX7_moved 60 = .ok (.aload_n 1, 1) := by decide +kernel
theorem dX7_moved_61 : decode cX7_moved 61 = .ok (.iconst 1, 1) := by decide +kernel
theorem dX7_moved_62 : decode cX7_moved 62 = .ok (.iaload, 1) := by decide +kernel
theorem dX7_moved_63 : decode cX7_moved 63 = .ok (.aload_n 3, 1) := by decide +kernel
theorem dX7_moved_64 : decode cX7_moved 64 = .ok (.iconst 1, 1) := by decide +kernel
theorem dX7_moved_65 : decode cX7_moved 65 = .ok (.iaload, 1) := by decide +kernel
theorem dX7_moved_66 : decode cX7_moved 66 = .ok (.if_icmp .ne 24, 3) := by decide +kernel
theorem dX7_moved_69 : decode cX7_moved 69 = .ok (.aload_n 1, 1) := by decide +kernel
theorem dX7_moved_70 : decode cX7_moved 70 = .ok (.iconst 0, 1) := by decide +kernel
theorem dX7_moved_71 : decode cX7_moved 71 = .ok (.iaload, 1) := by decide +kernel
theorem dX7_moved_72 : decode cX7_moved 72 = .ok (.iconst 1, 1) := by decide +kernel
theorem dX7_moved_73 : decode cX7_moved 73 = .ok (.if_icmp .ne 17, 3) := by decide +kernel
theorem dX7_moved_76 : decode cX7_moved 76 = .ok (.aload_n 0, 1) := by decide +kernel
theorem dX7_moved_77 : decode cX7_moved 77 = .ok (.aload_n 1, 1) := by decide +kernel
theorem dX7_moved_78 : decode cX7_moved 78 = .ok (.iload_n 2, 1) := by decide +kernel
theorem dX7_moved_79 : decode cX7_moved 79 = .ok (.aload_n 3, 1) := by decide +kernel
theorem dX7_moved_80 : decode cX7_moved 80 = .ok (.invokevirtual 47, 3) := by decide +kernel
theorem dX7_moved_83 : decode cX7_moved 83 = .ok (.ifCond .eq 7, 3) := by decide +kernel
theorem dX7_moved_86 : decode cX7_moved 86 = .ok (.iconst 1, 1) := by decide +kernel
theorem dX7_moved_87 : decode cX7_moved 87 = .ok (.goto 4, 3) := by decide +kernel
theorem dX7_moved_90 : decode cX7_moved 90 = .ok (.iconst 0, 1) := by decide +kernel
theorem dX7_moved_91 : decode cX7_moved 91 = .ok (.istore 5, 2) := by decide +kernel
theorem dX7_moved_93 : decode cX7_moved 93 = .ok (.aload 4, 2) := by decide +kernel
theorem dX7_moved_95 : decode cX7_moved 95 = .ok (.iconst 1, 1) := by decide +kernel
theorem dX7_moved_96 : decode cX7_moved 96 = .ok (.dup2, 1) := by decide +kernel
theorem dX7_moved_97 : decode cX7_moved 97 = .ok (.iaload, 1) := by decide +kernel
theorem dX7_moved_98 : decode cX7_moved 98 = .ok (.iload 5, 2) := by decide +kernel
theorem dX7_moved_100 : decode cX7_moved 100 = .ok (.ifCond .eq 7, 3) := by decide +kernel
theorem dX7_moved_103 : decode cX7_moved 103 = .ok (.iconst 0, 1) := by decide +kernel
theorem dX7_moved_104 : decode cX7_moved 104 = .ok (.goto 4, 3) := by decide +kernel
theorem dX7_moved_107 : decode cX7_moved 107 = .ok (.iconst 1, 1) := by decide +kernel
theorem dX7_moved_108 : decode cX7_moved 108 = .ok (.iadd, 1) := by decide +kernel
theorem dX7_moved_109 : decode cX7_moved 109 = .ok (.iastore, 1) := by decide +kernel
theorem dX7_moved_110 : decode cX7_moved 110 = .ok (.goto 44, 3) := by decide +kernel
theorem dX7_moved_113 : decode cX7_moved 113 = .ok (.aload_n 1, 1) := by decide +kernel
theorem dX7_moved_114 : decode cX7_moved 114 = .ok (.iconst 1, 1) := by decide +kernel
theorem dX7_moved_115 : decode cX7_moved 115 = .ok (.iaload, 1) := by decide +kernel
theorem dX7_moved_116 : decode cX7_moved 116 = .ok (.aload_n 3, 1) := by decide +kernel
theorem dX7_moved_117 : decode cX7_moved 117 = .ok (.iconst 1, 1) := by decide +kernel
theorem dX7_moved_118 : decode cX7_moved 118 = .ok (.iaload, 1) := by decide +kernel
theorem dX7_moved_119 : decode cX7_moved 119 = .ok (.if_icmp .le 14, 3) := by decide +kernel
theorem dX7_moved_122 : decode cX7_moved 122 = .ok (.aload 4, 2) := by decide +kernel
theorem dX7_moved_124 : decode cX7_moved 124 = .ok (.iconst 1, 1) := by decide +kernel
theorem dX7_moved_125 : decode cX7_moved 125 = .ok (.dup2, 1) := by decide +kernel
theorem dX7_moved_126 : decode cX7_moved 126 = .ok (.iaload, 1) := by decide +kernel
theorem dX7_moved_127 : decode cX7_moved 127 = .ok (.iconst 1, 1) := by decide +kernel
theorem dX7_moved_128 : decode cX7_moved 128 = .ok (.isub, 1) := by decide +kernel
theorem dX7_moved_129 : decode cX7_moved 129 = .ok (.iastore, 1) := by decide +kernel
theorem dX7_moved_130 : decode cX7_moved 130 = .ok (.goto 24, 3) := by decide +kernel
theorem dX7_moved_133 : decode cX7_moved 133 = .ok (.aload_n 1, 1) := by decide +kernel
theorem dX7_moved_134 : decode cX7_moved 134 = .ok (.iconst 1, 1) := by decide +kernel
theorem dX7_moved_135 : decode cX7_moved 135 = .ok (.iaload, 1) := by decide +kernel
theorem dX7_moved_136 : decode cX7_moved 136 = .ok (.aload_n 3, 1) := by decide +kernel
theorem dX7_moved_137 : decode cX7_moved 137 = .ok (.iconst 1, 1) := by decide +kernel
theorem dX7_moved_138 : decode cX7_moved 138 = .ok (.iaload, 1) := by decide +kernel
theorem dX7_moved_139 : decode cX7_moved 139 = .ok (.if_icmp .ne 15, 3) := by decide +kernel
theorem dX7_moved_142 : decode cX7_moved 142 = .ok (.aload_n 1, 1) := by decide +kernel
theorem dX7_moved_143 : decode cX7_moved 143 = .ok (.iconst 0, 1) := by decide +kernel
theorem dX7_moved_144 : decode cX7_moved 144 = .ok (.iaload, 1) := by decide +kernel
theorem dX7_moved_145 : decode cX7_moved 145 = .ok (.iconst 2, 1) := by decide +kernel
theorem dX7_moved_146 : decode cX7_moved 146 = .ok (.if_icmp .ne 8, 3) := by decide +kernel
theorem dX7_moved_149 : decode cX7_moved 149 = .ok (.aload 4, 2) := by decide +kernel
theorem dX7_moved_151 : decode cX7_moved 151 = .ok (.iconst 0, 1) := by decide +kernel
theorem dX7_moved_152 : decode cX7_moved 152 = .ok (.iconst 0, 1) := by decide +kernel
theorem dX7_moved_153 : decode cX7_moved 153 = .ok (.iastore, 1) := by decide +kernel
theorem dX7_moved_154 : decode cX7_moved 154 = .ok (.aload 4, 2) := by decide +kernel
theorem dX7_moved_156 : decode cX7_moved 156 = .ok (.areturn, 1) := by decide +kernel
theorem dX7_carryOut_0 : decode cX7_carryOut 0 = .ok (.aload_n 0, 1) := by decide +kernel
theorem dX7_carryOut_1 : decode cX7_carryOut 1 = .ok (.getfield 11, 3) := by decide +kernel
theorem dX7_carryOut_4 : decode cX7_carryOut 4 = .ok (.iload_n 1, 1) := by decide +kernel
theorem dX7_carryOut_5 : decode cX7_carryOut 5 = .ok (.aaload, 1) := by decide +kernel
theorem dX7_carryOut_6 : decode cX7_carryOut 6 = .ok (.astore_n 3, 1) := by decide +kernel
theorem dX7_carryOut_7 : decode cX7_carryOut 7 = .ok (.aload_n 2, 1) := by decide +kernel
theorem dX7_carryOut_8 : decode cX7_carryOut 8 = .ok (.iconst 1, 1) := by decide +kernel
theorem dX7_carryOut_9 : decode cX7_carryOut 9 = .ok (.iaload, 1) := by decide +kernel
theorem dX7_carryOut_10 : decode cX7_carryOut 10 = .ok (.istore 4, 2) := by decide +kernel
theorem dX7_carryOut_12 : decode cX7_carryOut 12 = .ok (.aload_n 2, 1) := by decide +kernel
theorem dX7_carryOut_13 : decode cX7_carryOut 13 = .ok (.iconst 0, 1) := by decide +kernel
theorem dX7_carryOut_14 : decode cX7_carryOut 14 = .ok (.iaload, 1) := by decide +kernel
theorem dX7_carryOut_15 : decode cX7_carryOut 15 = .ok (.ifCond .ne 4, 3) := by decide +kernel
theorem dX7_carryOut_18 : decode cX7_carryOut 18 = .ok (.return_, 1) := by decide +kernel
theorem dX7_carryOut_19 : decode cX7_carryOut 19 = .ok (.aload_n 2, 1) := by decide +kernel
theorem dX7_carryOut_20 : decode cX7_carryOut 20 = .ok (.iconst 0, 1) := by decide +kernel
theorem dX7_carryOut_21 : decode cX7_carryOut 21 = .ok (.iaload, 1) := by decide +kernel
theorem dX7_carryOut_22 : decode cX7_carryOut 22 = .ok (.iconst 1, 1) := by decide +kernel
theorem dX7_carryOut_23 : decode cX7_carryOut 23 = .ok (.if_icmp .ne 47, 3) := by decide +kernel
theorem dX7_carryOut_26 : decode cX7_carryOut 26 = .ok (.aload_n 3, 1) := by decide +kernel
theorem dX7_carryOut_27 : decode cX7_carryOut 27 = .ok (.iload 4, 2) := by decide +kernel
theorem dX7_carryOut_29 : decode cX7_carryOut 29 = .ok (.aload_n 3, 1) := by decide +kernel
theorem dX7_carryOut_30 : decode cX7_carryOut 30 = .ok (.iload 4, 2) := by decide +kernel
theorem dX7_carryOut_32 : decode cX7_carryOut 32 = .ok (.iconst 1, 1) := by decide +kernel
theorem dX7_carryOut_33 : decode cX7_carryOut 33 = .ok (.iadd, 1) := by decide +kernel
theorem dX7_carryOut_34 : decode cX7_carryOut 34 = .ok (.aload_n 0, 1) := by decide +kernel
theorem dX7_carryOut_35 : decode cX7_carryOut 35 = .ok (.getfield 17, 3) := by decide +kernel
theorem dX7_carryOut_38 : decode cX7_carryOut 38 = .ok (.iload_n 1, 1) := by decide +kernel
theorem dX7_carryOut_39 : decode cX7_carryOut 39 = .ok (.aaload, 1) := by decide +kernel
theorem dX7_carryOut_40 : decode cX7_carryOut 40 = .ok (.iconst 0, 1) := by decide +kernel
theorem dX7_carryOut_41 : decode cX7_carryOut 41 = .ok (.iaload, 1) := by decide +kernel
theorem dX7_carryOut_42 : decode cX7_carryOut 42 = .ok (.iload 4, 2) := by decide +kernel
theorem dX7_carryOut_44 : decode cX7_carryOut 44 = .ok (.isub, 1) := by decide +kernel
theorem dX7_carryOut_45 : decode cX7_carryOut 45 = .ok (.invokestatic 51, 3) := by decide +kernel
theorem dX7_carryOut_48 : decode cX7_carryOut 48 = .ok (.aload_n 3, 1) := by decide +kernel
theorem dX7_carryOut_49 : decode cX7_carryOut 49 = .ok (.iload 4, 2) := by decide +kernel
theorem dX7_carryOut_51 : decode cX7_carryOut 51 = .ok (.aload_n 2, 1) := by decide +kernel
theorem dX7_carryOut_52 : decode cX7_carryOut 52 = .ok (.iconst 3, 1) := by decide +kernel
theorem dX7_carryOut_53 : decode cX7_carryOut 53 = .ok (.iaload, 1) := by decide +kernel
theorem dX7_carryOut_54 : decode cX7_carryOut 54 = .ok (.iastore, 1) := by decide +kernel
theorem dX7_carryOut_55 : decode cX7_carryOut 55 = .ok (.aload_n 0, 1) := by decide +kernel
theorem dX7_carryOut_56 : decode cX7_carryOut 56 = .ok (.getfield 17, 3) := by decide +kernel
theorem dX7_carryOut_59 : decode cX7_carryOut 59 = .ok (.iload_n 1, 1) := by decide +kernel
theorem dX7_carryOut_60 : decode cX7_carryOut 60 = .ok (.aaload, 1) := by decide +kernel
theorem dX7_carryOut_61 : decode cX7_carryOut 61 = .ok (.iconst 0, 1) := by decide +kernel
theorem dX7_carryOut_62 : decode cX7_carryOut 62 = .ok (.dup2, 1) := by decide +kernel
theorem dX7_carryOut_63 : decode cX7_carryOut 63 = .ok (.iaload, 1) := by decide +kernel
theorem dX7_carryOut_64 : decode cX7_carryOut 64 = .ok (.iconst 1, 1) := by decide +kernel
theorem dX7_carryOut_65 : decode cX7_carryOut 65 = .ok (.iadd, 1) := by decide +kernel
theorem dX7_carryOut_66 : decode cX7_carryOut 66 = .ok (.iastore, 1) := by decide +kernel
theorem dX7_carryOut_67 : decode cX7_carryOut 67 = .ok (.goto 37, 3) := by decide +kernel
theorem dX7_carryOut_70 : decode cX7_carryOut 70 = .ok (.aload_n 0, 1) := by decide +kernel
theorem dX7_carryOut_71 : decode cX7_carryOut 71 = .ok (.getfield 17, 3) := by decide +kernel
theorem dX7_carryOut_74 : decode cX7_carryOut 74 = .ok (.iload_n 1, 1) := by decide +kernel
theorem dX7_carryOut_75 : decode cX7_carryOut 75 = .ok (.aaload, 1) := by decide +kernel
theorem dX7_carryOut_76 : decode cX7_carryOut 76 = .ok (.iconst 0, 1) := by decide +kernel
theorem dX7_carryOut_77 : decode cX7_carryOut 77 = .ok (.dup2, 1) := by decide +kernel
theorem dX7_carryOut_78 : decode cX7_carryOut 78 = .ok (.iaload, 1) := by decide +kernel
theorem dX7_carryOut_79 : decode cX7_carryOut 79 = .ok (.iconst 1, 1) := by decide +kernel
theorem dX7_carryOut_80 : decode cX7_carryOut 80 = .ok (.isub, 1) := by decide +kernel
theorem dX7_carryOut_81 : decode cX7_carryOut 81 = .ok (.iastore, 1) := by decide +kernel
theorem dX7_carryOut_82 : decode cX7_carryOut 82 = .ok (.aload_n 3, 1) := by decide +kernel
theorem dX7_carryOut_83 : decode cX7_carryOut 83 = .ok (.iload 4, 2) := by decide +kernel
theorem dX7_carryOut_85 : decode cX7_carryOut 85 = .ok (.iconst 1, 1) := by decide +kernel
theorem dX7_carryOut_86 : decode cX7_carryOut 86 = .ok (.iadd, 1) := by decide +kernel
theorem dX7_carryOut_87 : decode cX7_carryOut 87 = .ok (.aload_n 3, 1) := by decide +kernel
theorem dX7_carryOut_88 : decode cX7_carryOut 88 = .ok (.iload 4, 2) := by decide +kernel
theorem dX7_carryOut_90 : decode cX7_carryOut 90 = .ok (.aload_n 0, 1) := by decide +kernel
theorem dX7_carryOut_91 : decode cX7_carryOut 91 = .ok (.getfield 17, 3) := by decide +kernel
theorem dX7_carryOut_94 : decode cX7_carryOut 94 = .ok (.iload_n 1, 1) := by decide +kernel
theorem dX7_carryOut_95 : decode cX7_carryOut 95 = .ok (.aaload, 1) := by decide +kernel
theorem dX7_carryOut_96 : decode cX7_carryOut 96 = .ok (.iconst 0, 1) := by decide +kernel
theorem dX7_carryOut_97 : decode cX7_carryOut 97 = .ok (.iaload, 1) := by decide +kernel
theorem dX7_carryOut_98 : decode cX7_carryOut 98 = .ok (.iload 4, 2) := by decide +kernel
theorem dX7_carryOut_100 : decode cX7_carryOut 100 = .ok (.isub, 1) := by decide +kernel
theorem dX7_carryOut_101 : decode cX7_carryOut 101 = .ok (.invokestatic 51, 3) := by decide +kernel
theorem dX7_carryOut_104 : decode cX7_carryOut 104 = .ok (.iconst 0, 1) := by decide +kernel
theorem dX7_carryOut_105 : decode cX7_carryOut 105 = .ok (.istore 5, 2) := by decide +kernel
theorem dX7_carryOut_107 : decode cX7_carryOut 107 = .ok (.iload 5, 2) := by decide +kernel
theorem dX7_carryOut_109 : decode cX7_carryOut 109 = .ok (.aload_n 0, 1) := by decide +kernel
theorem dX7_carryOut_110 : decode cX7_carryOut 110 = .ok (.getfield 17, 3) := by decide +kernel
theorem dX7_carryOut_113 : decode cX7_carryOut 113 = .ok (.iload_n 1, 1) := by decide +kernel
theorem dX7_carryOut_114 : decode cX7_carryOut 114 = .ok (.aaload, 1) := by decide +kernel
theorem dX7_carryOut_115 : decode cX7_carryOut 115 = .ok (.iconst 5, 1) := by decide +kernel
theorem dX7_carryOut_116 : decode cX7_carryOut 116 = .ok (.iaload, 1) := by decide +kernel
theorem dX7_carryOut_117 : decode cX7_carryOut 117 = .ok (.if_icmp .ge 70, 3) := by decide +kernel
theorem dX7_carryOut_120 : decode cX7_carryOut 120 = .ok (.aload_n 0, 1) := by decide +kernel
theorem dX7_carryOut_121 : decode cX7_carryOut 121 = .ok (.getfield 22, 3) := by decide +kernel
theorem dX7_carryOut_124 : decode cX7_carryOut 124 = .ok (.iload_n 1, 1) := by decide +kernel
theorem dX7_carryOut_125 : decode cX7_carryOut 125 = .ok (.aaload, 1) := by decide +kernel
theorem dX7_carryOut_126 : decode cX7_carryOut 126 = .ok (.iconst 3, 1) := by decide +kernel
theorem dX7_carryOut_127 : decode cX7_carryOut 127 = .ok (.iload 5, 2) := by decide +kernel
theorem dX7_carryOut_129 : decode cX7_carryOut 129 = .ok (.imul, 1) := by decide +kernel
theorem dX7_carryOut_130 : decode cX7_carryOut 130 = .ok (.iaload, 1) := by decide +kernel
theorem dX7_carryOut_131 : decode cX7_carryOut 131 = .ok (.iconst 2, 1) := by decide +kernel
theorem dX7_carryOut_132 : decode cX7_carryOut 132 = .ok (.if_icmp .ne 49, 3) := by decide +kernel
theorem dX7_carryOut_135 : decode cX7_carryOut 135 = .ok (.aload_n 0, 1) := by decide +kernel
theorem dX7_carryOut_136 : decode cX7_carryOut 136 = .ok (.getfield 22, 3) := by decide +kernel
theorem dX7_carryOut_139 : decode cX7_carryOut 139 = .ok (.iload_n 1, 1) := by decide +kernel
theorem dX7_carryOut_140 : decode cX7_carryOut 140 = .ok (.aaload, 1) := by decide +kernel
theorem dX7_carryOut_141 : decode cX7_carryOut 141 = .ok (.iconst 3, 1) := by decide +kernel
theorem dX7_carryOut_142 : decode cX7_carryOut 142 = .ok (.iload 5, 2) := by decide +kernel
theorem dX7_carryOut_144 : decode cX7_carryOut 144 = .ok (.imul, 1) := by decide +kernel
theorem dX7_carryOut_145 : decode cX7_carryOut 145 = .ok (.iconst 1, 1) := by decide +kernel
theorem dX7_carryOut_146 : decode cX7_carryOut 146 = .ok (.iadd, 1) := by decide +kernel
theorem dX7_carryOut_147 : decode cX7_carryOut 147 = .ok (.iaload, 1) := by decide +kernel
theorem dX7_carryOut_148 : decode cX7_carryOut 148 = .ok (.iload 4, 2) := by decide +kernel
theorem dX7_carryOut_150 : decode cX7_carryOut 150 = .ok (.if_icmp .le 31, 3) := by decide +kernel
theorem dX7_carryOut_153 : decode cX7_carryOut 153 = .ok (.aload_n 0, 1) := by decide +kernel
theorem dX7_carryOut_154 : decode cX7_carryOut 154 = .ok (.getfield 22, 3) := by decide +kernel
theorem dX7_carryOut_157 : decode cX7_carryOut 157 = .ok (.iload_n 1, 1) := by decide +kernel
theorem dX7_carryOut_158 : decode cX7_carryOut 158 = .ok (.aaload, 1) := by decide +kernel
theorem dX7_carryOut_159 : decode cX7_carryOut 159 = .ok (.iconst 3, 1) := by decide +kernel
theorem dX7_carryOut_160 : decode cX7_carryOut 160 = .ok (.iload 5, 2) := by decide +kernel
theorem dX7_carryOut_162 : decode cX7_carryOut 162 = .ok (.imul, 1) := by decide +kernel
theorem dX7_carryOut_163 : decode cX7_carryOut 163 = .ok (.iconst 1, 1) := by decide +kernel
theorem dX7_carryOut_164 : decode cX7_carryOut 164 = .ok (.iadd, 1) := by decide +kernel
theorem dX7_carryOut_165 : decode cX7_carryOut 165 = .ok (.dup2, 1) := by decide +kernel
theorem dX7_carryOut_166 : decode cX7_carryOut 166 = .ok (.iaload, 1) := by decide +kernel
theorem dX7_carryOut_167 : decode cX7_carryOut 167 = .ok (.aload_n 2, 1) := by decide +kernel
theorem dX7_carryOut_168 : decode cX7_carryOut 168 = .ok (.iconst 0, 1) := by decide +kernel
theorem dX7_carryOut_169 : decode cX7_carryOut 169 = .ok (.iaload, 1) := by decide +kernel
theorem dX7_carryOut_170 : decode cX7_carryOut 170 = .ok (.iconst 1, 1) := by decide +kernel
theorem dX7_carryOut_171 : decode cX7_carryOut 171 = .ok (.if_icmp .ne 7, 3) := by decide +kernel
theorem dX7_carryOut_174 : decode cX7_carryOut 174 = .ok (.iconst 1, 1) := by decide +kernel
theorem dX7_carryOut_175 : decode cX7_carryOut 175 = .ok (.goto 4, 3) := by decide +kernel
theorem dX7_carryOut_178 : decode cX7_carryOut 178 = .ok (.iconst (-1), 1) := by decide +kernel
theorem dX7_carryOut_179 : decode cX7_carryOut 179 = .ok (.iadd, 1) := by decide +kernel
theorem dX7_carryOut_180 : decode cX7_carryOut 180 = .ok (.iastore, 1) := by decide +kernel
theorem dX7_carryOut_181 : decode cX7_carryOut 181 = .ok (.iinc 5 1, 3) := by decide +kernel
theorem dX7_carryOut_184 : decode cX7_carryOut 184 = .ok (.goto (-77), 3) := by decide +kernel
theorem dX7_carryOut_187 : decode cX7_carryOut 187 = .ok (.return_, 1) := by decide +kernel
theorem dX7_onWay_0 : decode cX7_onWay 0 = .ok (.iconst 4, 1) := by decide +kernel
theorem dX7_onWay_1 : decode cX7_onWay 1 = .ok (.newarray .int, 2) := by decide +kernel
theorem dX7_onWay_3 : decode cX7_onWay 3 = .ok (.astore_n 3, 1) := by decide +kernel
theorem dX7_onWay_4 : decode cX7_onWay 4 = .ok (.aload_n 0, 1) := by decide +kernel
theorem dX7_onWay_5 : decode cX7_onWay 5 = .ok (.getfield 14, 3) := by decide +kernel
theorem dX7_onWay_8 : decode cX7_onWay 8 = .ok (.iload_n 1, 1) := by decide +kernel
theorem dX7_onWay_9 : decode cX7_onWay 9 = .ok (.aaload, 1) := by decide +kernel
theorem dX7_onWay_10 : decode cX7_onWay 10 = .ok (.iconst 4, 1) := by decide +kernel
theorem dX7_onWay_11 : decode cX7_onWay 11 = .ok (.iload_n 2, 1) := by decide +kernel
theorem dX7_onWay_12 : decode cX7_onWay 12 = .ok (.imul, 1) := by decide +kernel
theorem dX7_onWay_13 : decode cX7_onWay 13 = .ok (.aload_n 3, 1) := by decide +kernel
theorem dX7_onWay_14 : decode cX7_onWay 14 = .ok (.iconst 0, 1) := by decide +kernel
theorem dX7_onWay_15 : decode cX7_onWay 15 = .ok (.iconst 4, 1) := by decide +kernel
theorem dX7_onWay_16 : decode cX7_onWay 16 = .ok (.invokestatic 51, 3) := by decide +kernel
theorem dX7_onWay_19 : decode cX7_onWay 19 = .ok (.aload_n 3, 1) := by decide +kernel
theorem dX7_onWay_20 : decode cX7_onWay 20 = .ok (.areturn, 1) := by decide +kernel
