theorem dX7_aboutOf_0 : decode cX7_aboutOf 0 = .ok (.iload_n 2, 1) := by decide +kernel
theorem dX7_aboutOf_1 : decode cX7_aboutOf 1 = .ok (.tableswitch 93 0 5 #[39, 48, 57, 66, 75, 84], 39) := by decide +kernel
theorem dX7_aboutOf_40 : decode cX7_aboutOf 40 = .ok (.aload_n 0, 1) := by decide +kernel
theorem dX7_aboutOf_41 : decode cX7_aboutOf 41 = .ok (.getfield 17, 3) := by decide +kernel
theorem dX7_aboutOf_44 : decode cX7_aboutOf 44 = .ok (.iload_n 1, 1) := by decide +kernel
theorem dX7_aboutOf_45 : decode cX7_aboutOf 45 = .ok (.aaload, 1) := by decide +kernel
theorem dX7_aboutOf_46 : decode cX7_aboutOf 46 = .ok (.iconst 0, 1) := by decide +kernel
theorem dX7_aboutOf_47 : decode cX7_aboutOf 47 = .ok (.iaload, 1) := by decide +kernel
theorem dX7_aboutOf_48 : decode cX7_aboutOf 48 = .ok (.ireturn, 1) := by decide +kernel
theorem dX7_aboutOf_49 : decode cX7_aboutOf 49 = .ok (.aload_n 0, 1) := by decide +kernel
theorem dX7_aboutOf_50 : decode cX7_aboutOf 50 = .ok (.getfield 17, 3) := by decide +kernel
theorem dX7_aboutOf_53 : decode cX7_aboutOf 53 = .ok (.iload_n 1, 1) := by decide +kernel
theorem dX7_aboutOf_54 : decode cX7_aboutOf 54 = .ok (.aaload, 1) := by decide +kernel
theorem dX7_aboutOf_55 : decode cX7_aboutOf 55 = .ok (.iconst 2, 1) := by decide +kernel
theorem dX7_aboutOf_56 : decode cX7_aboutOf 56 = .ok (.iaload, 1) := by decide +kernel
theorem dX7_aboutOf_57 : decode cX7_aboutOf 57 = .ok (.ireturn, 1) := by decide +kernel
theorem dX7_aboutOf_58 : decode cX7_aboutOf 58 = .ok (.aload_n 0, 1) := by decide +kernel
theorem dX7_aboutOf_59 : decode cX7_aboutOf 59 = .ok (.getfield 17, 3) := by decide +kernel
theorem dX7_aboutOf_62 : decode cX7_aboutOf 62 = .ok (.iload_n 1, 1) := by decide +kernel
theorem dX7_aboutOf_63 : decode cX7_aboutOf 63 = .ok (.aaload, 1) := by decide +kernel
theorem dX7_aboutOf_64 : decode cX7_aboutOf 64 = .ok (.iconst 5, 1) := by decide +kernel
theorem dX7_aboutOf_65 : decode cX7_aboutOf 65 = .ok (.iaload, 1) := by decide +kernel
theorem dX7_aboutOf_66 : decode cX7_aboutOf 66 = .ok (.ireturn, 1) := by decide +kernel
theorem dX7_aboutOf_67 : decode cX7_aboutOf 67 = .ok (.aload_n 0, 1) := by decide +kernel
theorem dX7_aboutOf_68 : decode cX7_aboutOf 68 = .ok (.getfield 17, 3) := by decide +kernel
theorem dX7_aboutOf_71 : decode cX7_aboutOf 71 = .ok (.iload_n 1, 1) := by decide +kernel
theorem dX7_aboutOf_72 : decode cX7_aboutOf 72 = .ok (.aaload, 1) := by decide +kernel
theorem dX7_aboutOf_73 : decode cX7_aboutOf 73 = .ok (.iconst 1, 1) := by decide +kernel
theorem dX7_aboutOf_74 : decode cX7_aboutOf 74 = .ok (.iaload, 1) := by decide +kernel
theorem dX7_aboutOf_75 : decode cX7_aboutOf 75 = .ok (.ireturn, 1) := by decide +kernel
theorem dX7_aboutOf_76 : decode cX7_aboutOf 76 = .ok (.aload_n 0, 1) := by decide +kernel
theorem dX7_aboutOf_77 : decode cX7_aboutOf 77 = .ok (.getfield 17, 3) := by decide +kernel
theorem dX7_aboutOf_80 : decode cX7_aboutOf 80 = .ok (.iload_n 1, 1) := by decide +kernel
theorem dX7_aboutOf_81 : decode cX7_aboutOf 81 = .ok (.aaload, 1) := by decide +kernel
theorem dX7_aboutOf_82 : decode cX7_aboutOf 82 = .ok (.iconst 3, 1) := by decide +kernel
theorem dX7_aboutOf_83 : decode cX7_aboutOf 83 = .ok (.iaload, 1) := by decide +kernel
theorem dX7_aboutOf_84 : decode cX7_aboutOf 84 = .ok (.ireturn, 1) := by decide +kernel
theorem dX7_aboutOf_85 : decode cX7_aboutOf 85 = .ok (.aload_n 0, 1) := by decide +kernel
theorem dX7_aboutOf_86 : decode cX7_aboutOf 86 = .ok (.getfield 17, 3) := by decide +kernel
theorem dX7_aboutOf_89 : decode cX7_aboutOf 89 = .ok (.iload_n 1, 1) := by decide +kernel
theorem dX7_aboutOf_90 : decode cX7_aboutOf 90 = .ok (.aaload, 1) := by decide +kernel
theorem dX7_aboutOf_91 : decode cX7_aboutOf 91 = .ok (.iconst 4, 1) := by decide +kernel
theorem dX7_aboutOf_92 : decode cX7_aboutOf 92 = .ok (.iaload, 1) := by decide +kernel
theorem dX7_aboutOf_93 : decode cX7_aboutOf 93 = .ok (.ireturn, 1) := by decide +kernel
theorem dX7_aboutOf_94 : decode cX7_aboutOf 94 = .ok (.iconst 0, 1) := by decide +kernel
theorem dX7_aboutOf_95 : decode cX7_aboutOf 95 = .ok (.istore_n 3, 1) := by decide +kernel
theorem dX7_aboutOf_96 : decode cX7_aboutOf 96 = .ok (.iconst 0, 1) := by decide +kernel
theorem dX7_aboutOf_97 : decode cX7_aboutOf 97 = .ok (.istore 4, 2) := by decide +kernel
theorem dX7_aboutOf_99 : decode cX7_aboutOf 99 = .ok (.iload 4, 2) := by decide +kernel
theorem dX7_aboutOf_101 : decode cX7_aboutOf 101 = .ok (.aload_n 0, 1) := by decide +kernel
theorem dX7_aboutOf_102 : decode cX7_aboutOf 102 = .ok (.getfield 17, 3) := by decide +kernel
theorem dX7_aboutOf_105 : decode cX7_aboutOf 105 = .ok (.iload_n 1, 1) := by decide +kernel
theorem dX7_aboutOf_106 : decode cX7_aboutOf 106 = .ok (.aaload, 1) := by decide +kernel
theorem dX7_aboutOf_107 : decode cX7_aboutOf 107 = .ok (.iconst 0, 1) := by decide +kernel
theorem dX7_aboutOf_108 : decode cX7_aboutOf 108 = .ok (.iaload, 1) := by decide +kernel
theorem dX7_aboutOf_109 : decode cX7_aboutOf 109 = .ok (.if_icmp .ge 33, 3) := by decide +kernel
theorem dX7_aboutOf_112 : decode cX7_aboutOf 112 = .ok (.iload_n 3, 1) := by decide +kernel
theorem dX7_aboutOf_113 : decode cX7_aboutOf 113 = .ok (.aload_n 0, 1) := by decide +kernel
theorem dX7_aboutOf_114 : decode cX7_aboutOf 114 = .ok (.getfield 11, 3) := by decide +kernel
theorem dX7_aboutOf_117 : decode cX7_aboutOf 117 = .ok (.iload_n 1, 1) := by decide +kernel
theorem dX7_aboutOf_118 : decode cX7_aboutOf 118 = .ok (.aaload, 1) := by decide +kernel
theorem dX7_aboutOf_119 : decode cX7_aboutOf 119 = .ok (.iload 4, 2) := by decide +kernel
theorem dX7_aboutOf_121 : decode cX7_aboutOf 121 = .ok (.iaload, 1) := by decide +kernel
theorem dX7_aboutOf_122 : decode cX7_aboutOf 122 = .ok (.invokestatic 102, 3) := by decide +kernel
theorem dX7_aboutOf_125 : decode cX7_aboutOf 125 = .ok (.iload_n 1, 1) := by decide +kernel
theorem dX7_aboutOf_126 : decode cX7_aboutOf 126 = .ok (.if_icmp .ne 7, 3) := by decide +kernel
theorem dX7_aboutOf_129 : decode cX7_aboutOf 129 = .ok (.iconst 1, 1) := by decide +kernel
theorem dX7_aboutOf_130 : decode cX7_aboutOf 130 = .ok (.goto 4, 3) := by decide +kernel
theorem dX7_aboutOf_133 : decode cX7_aboutOf 133 = .ok (.iconst 0, 1) := by decide +kernel
theorem dX7_aboutOf_134 : decode cX7_aboutOf 134 = .ok (.iadd, 1) := by decide +kernel
theorem dX7_aboutOf_135 : decode cX7_aboutOf 135 = .ok (.istore_n 3, 1) := by decide +kernel
theorem dX7_aboutOf_136 : decode cX7_aboutOf 136 = .ok (.iinc 4 1, 3) := by decide +kernel
theorem dX7_aboutOf_139 : decode cX7_aboutOf 139 = .ok (.goto (-40), 3) := by decide +kernel
theorem dX7_aboutOf_142 : decode cX7_aboutOf 142 = .ok (.iload_n 3, 1) := by decide +kernel
theorem dX7_aboutOf_143 : decode cX7_aboutOf 143 = .ok (.ireturn, 1) := by decide +kernel
theorem dX7_about_0 : decode cX7_about 0 = .ok (.aload_n 0, 1) := by decide +kernel
theorem dX7_about_1 : decode cX7_about 1 = .ok (.iconst 0, 1) := by decide +kernel
theorem dX7_about_2 : decode cX7_about 2 = .ok (.putfield 25, 3) := by decide +kernel
theorem dX7_about_5 : decode cX7_about 5 = .ok (.iload_n 1, 1) := by decide +kernel
theorem dX7_about_6 : decode cX7_about 6 = .ok (.invokestatic 33, 3) := by decide +kernel
theorem dX7_about_9 : decode cX7_about 9 = .ok (.ifCond .eq 22, 3) := by decide +kernel
theorem dX7_about_12 : decode cX7_about 12 = .ok (.iload_n 2, 1) := by decide +kernel
theorem dX7_about_13 : decode cX7_about 13 = .ok (.iconst 0, 1) := by decide +kernel
theorem dX7_about_14 : decode cX7_about 14 = .ok (.bipush 6, 2) := by decide +kernel
theorem dX7_about_16 : decode cX7_about 16 = .ok (.invokestatic 29, 3) := by decide +kernel
theorem dX7_about_19 : decode cX7_about 19 = .ok (.ifCond .eq 12, 3) := by decide +kernel
theorem dX7_about_22 : decode cX7_about 22 = .ok (.aload_n 0, 1) := by decide +kernel
theorem dX7_about_23 : decode cX7_about 23 = .ok (.iload_n 1, 1) := by decide +kernel
theorem dX7_about_24 : decode cX7_about 24 = .ok (.iload_n 2, 1) := by decide +kernel
theorem dX7_about_25 : decode cX7_about 25 = .ok (.invokevirtual 105, 3) := by decide +kernel
theorem dX7_about_28 : decode cX7_about 28 = .ok (.goto 8, 3) := by decide +kernel
theorem dX7_about_31 : decode cX7_about 31 = .ok (.aload_n 0, 1) := by decide +kernel
theorem dX7_about_32 : decode cX7_about 32 = .ok (.iconst 1, 1) := by decide +kernel
theorem dX7_about_33 : decode cX7_about 33 = .ok (.invokevirtual 72, 3) := by decide +kernel
theorem dX7_about_36 : decode cX7_about 36 = .ok (.ireturn, 1) := by decide +kernel
theorem dX7_wayTold_0 : decode cX7_wayTold 0 = .ok (.iconst 4, 1) := by decide +kernel
theorem dX7_wayTold_1 : decode cX7_wayTold 1 = .ok (.iload_n 2, 1) := by decide +kernel
theorem dX7_wayTold_2 : decode cX7_wayTold 2 = .ok (.imul, 1) := by decide +kernel
theorem dX7_wayTold_3 : decode cX7_wayTold 3 = .ok (.istore 4, 2) := by decide +kernel
theorem dX7_wayTold_5 : decode cX7_wayTold 5 = .ok (.aload_n 0, 1) := by decide +kernel
theorem dX7_wayTold_6 : decode cX7_wayTold 6 = .ok (.getfield 14, 3) := by decide +kernel
theorem dX7_wayTold_9 : decode cX7_wayTold 9 = .ok (.iload_n 1, 1) := by decide +kernel
theorem dX7_wayTold_10 : decode cX7_wayTold 10 = .ok (.aaload, 1) := by decide +kernel
theorem dX7_wayTold_11 : decode cX7_wayTold 11 = .ok (.iload 4, 2) := by decide +kernel
theorem dX7_wayTold_13 : decode cX7_wayTold 13 = .ok (.iconst 0, 1) := by decide +kernel
theorem dX7_wayTold_14 : decode cX7_wayTold 14 = .ok (.iadd, 1) := by decide +kernel
theorem dX7_wayTold_15 : decode cX7_wayTold 15 = .ok (.iaload, 1) := by decide +kernel
theorem dX7_wayTold_16 : decode cX7_wayTold 16 = .ok (.istore 5, 2) := by decide +kernel
theorem dX7_wayTold_18 : decode cX7_wayTold 18 = .ok (.iload_n 3, 1) := by decide +kernel
theorem dX7_wayTold_19 : decode cX7_wayTold 19 = .ok (.ifCond .ne 6, 3) := by decide +kernel
theorem dX7_wayTold_22 : decode cX7_wayTold 22 = .ok (.iload 5, 2) := by decide +kernel
theorem dX7_wayTold_24 : decode cX7_wayTold 24 = .ok (.ireturn, 1) := by decide +kernel
theorem dX7_wayTold_25 : decode cX7_wayTold 25 = .ok (.iload_n 3, 1) := by decide +kernel
theorem dX7_wayTold_26 : decode cX7_wayTold 26 = .ok (.iconst 1, 1) := by decide +kernel
theorem dX7_wayTold_27 : decode cX7_wayTold 27 = .ok (.if_icmp .ne 24, 3) := by decide +kernel
theorem dX7_wayTold_30 : decode cX7_wayTold 30 = .ok (.iload 5, 2) := by decide +kernel
theorem dX7_wayTold_32 : decode cX7_wayTold 32 = .ok (.ifCond .ne 7, 3) := by decide +kernel
theorem dX7_wayTold_35 : decode cX7_wayTold 35 = .ok (.iconst (-1), 1) := by decide +kernel
theorem dX7_wayTold_36 : decode cX7_wayTold 36 = .ok (.goto 14, 3) := by decide +kernel
theorem dX7_wayTold_39 : decode cX7_wayTold 39 = .ok (.aload_n 0, 1) := by decide +kernel
theorem dX7_wayTold_40 : decode cX7_wayTold 40 = .ok (.getfield 14, 3) := by decide +kernel
theorem dX7_wayTold_43 : decode cX7_wayTold 43 = .ok (.iload_n 1, 1) := by decide +kernel
theorem dX7_wayTold_44 : decode cX7_wayTold 44 = .ok (.aaload, 1) := by decide +kernel
theorem dX7_wayTold_45 : decode cX7_wayTold 45 = .ok (.iload 4, 2) := by decide +kernel
theorem dX7_wayTold_47 : decode cX7_wayTold 47 = .ok (.iconst 1, 1) := by decide +kernel
theorem dX7_wayTold_48 : decode cX7_wayTold 48 = .ok (.iadd, 1) := by decide +kernel
theorem dX7_wayTold_49 : decode cX7_wayTold 49 = .ok (.iaload, 1) := by decide +kernel
theorem dX7_wayTold_50 : decode cX7_wayTold 50 = .ok (.ireturn, 1) := by decide +kernel
theorem dX7_wayTold_51 : decode cX7_wayTold 51 = .ok (.iload 5, 2) := by decide +kernel
theorem dX7_wayTold_53 : decode cX7_wayTold 53 = .ok (.iconst 1, 1) := by decide +kernel
theorem dX7_wayTold_54 : decode cX7_wayTold 54 = .ok (.if_icmp .eq 7, 3) := by decide +kernel
theorem dX7_wayTold_57 : decode cX7_wayTold 57 = .ok (.iconst (-1), 1) := by decide +kernel
theorem dX7_wayTold_58 : decode cX7_wayTold 58 = .ok (.goto 36, 3) := by decide +kernel
theorem dX7_wayTold_61 : decode cX7_wayTold 61 = .ok (.iload_n 3, 1) := by decide +kernel
theorem dX7_wayTold_62 : decode cX7_wayTold 62 = .ok (.iconst 2, 1) := by decide +kernel
theorem dX7_wayTold_63 : decode cX7_wayTold 63 = .ok (.if_icmp .ne 20, 3) := by decide +kernel
theorem dX7_wayTold_66 : decode cX7_wayTold 66 = .ok (.aload_n 0, 1) := by decide +kernel
theorem dX7_wayTold_67 : decode cX7_wayTold 67 = .ok (.getfield 14, 3) := by decide +kernel
theorem dX7_wayTold_70 : decode cX7_wayTold 70 = .ok (.iload_n 1, 1) := by decide +kernel
theorem dX7_wayTold_71 : decode cX7_wayTold 71 = .ok (.aaload, 1) := by decide +kernel
theorem dX7_wayTold_72 : decode cX7_wayTold 72 = .ok (.iload 4, 2) := by decide +kernel
theorem dX7_wayTold_74 : decode cX7_wayTold 74 = .ok (.iconst 3, 1) := by decide +kernel
theorem dX7_wayTold_75 : decode cX7_wayTold 75 = .ok (.iadd, 1) := by decide +kernel
theorem dX7_wayTold_76 : decode cX7_wayTold 76 = .ok (.iaload, 1) := by decide +kernel
theorem dX7_wayTold_77 : decode cX7_wayTold 77 = .ok (.invokestatic 43, 3) := by decide +kernel
theorem dX7_wayTold_80 : decode cX7_wayTold 80 = .ok (.goto 14, 3) := by decide +kernel
theorem dX7_wayTold_83 : decode cX7_wayTold 83 = .ok (.aload_n 0, 1) := by decide +kernel
theorem dX7_wayTold_84 : decode cX7_wayTold 84 = .ok (.getfield 14, 3) := by decide +kernel
theorem dX7_wayTold_87 : decode cX7_wayTold 87 = .ok (.iload_n 1, 1) := by decide +kernel
theorem dX7_wayTold_88 : decode cX7_wayTold 88 = .ok (.aaload, 1) := by decide +kernel
theorem dX7_wayTold_89 : decode cX7_wayTold 89 = .ok (.iload 4, 2) := by decide +kernel
theorem dX7_wayTold_91 : decode cX7_wayTold 91 = .ok (.iconst 2, 1) := by decide +kernel
theorem dX7_wayTold_92 : decode cX7_wayTold 92 = .ok (.iadd, 1) := by decide +kernel
theorem dX7_wayTold_93 : decode cX7_wayTold 93 = .ok (.iaload, 1) := by decide +kernel
theorem dX7_wayTold_94 : decode cX7_wayTold 94 = .ok (.ireturn, 1) := by decide +kernel
theorem dX7_way_0 : decode cX7_way 0 = .ok (.aload_n 0, 1) := by decide +kernel
theorem dX7_way_1 : decode cX7_way 1 = .ok (.iconst 0, 1) := by decide +kernel
theorem dX7_way_2 : decode cX7_way 2 = .ok (.putfield 25, 3) := by decide +kernel
theorem dX7_way_5 : decode cX7_way 5 = .ok (.iload_n 1, 1) := by decide +kernel
theorem dX7_way_6 : decode cX7_way 6 = .ok (.invokestatic 33, 3) := by decide +kernel
theorem dX7_way_9 : decode cX7_way 9 = .ok (.ifCond .eq 40, 3) := by decide +kernel
theorem dX7_way_12 : decode cX7_way 12 = .ok (.iload_n 2, 1) := by decide +kernel
theorem dX7_way_13 : decode cX7_way 13 = .ok (.iconst 0, 1) := by decide +kernel
theorem dX7_way_14 : decode cX7_way 14 = .ok (.aload_n 0, 1) := by decide +kernel
theorem dX7_way_15 : decode cX7_way 15 = .ok (.getfield 17, 3) := by decide +kernel
theorem dX7_way_18 : decode cX7_way 18 = .ok (.iload_n 1, 1) := by decide +kernel
theorem dX7_way_19 : decode cX7_way 19 = .ok (.aaload, 1) := by decide +kernel
theorem dX7_way_20 : decode cX7_way 20 = .ok (.iconst 1, 1) := by decide +kernel
theorem dX7_way_21 : decode cX7_way 21 = .ok (.iaload, 1) := by decide +kernel
theorem dX7_way_22 : decode cX7_way 22 = .ok (.iconst 1, 1) := by decide +kernel
theorem dX7_way_23 : decode cX7_way 23 = .ok (.isub, 1) := by decide +kernel
theorem dX7_way_24 : decode cX7_way 24 = .ok (.invokestatic 29, 3) := by decide +kernel
theorem dX7_way_27 : decode cX7_way 27 = .ok (.ifCond .eq 22, 3) := by decide +kernel
theorem dX7_way_30 : decode cX7_way 30 = .ok (.iload_n 3, 1) := by decide +kernel
theorem dX7_way_31 : decode cX7_way 31 = .ok (.iconst 0, 1) := by decide +kernel
theorem dX7_way_32 : decode cX7_way 32 = .ok (.iconst 3, 1) := by decide +kernel
theorem dX7_way_33 : decode cX7_way 33 = .ok (.invokestatic 29, 3) := by decide +kernel
theorem dX7_way_36 : decode cX7_way 36 = .ok (.ifCond .eq 13, 3) := by decide +kernel
theorem dX7_way_39 : decode cX7_way 39 = .ok (.aload_n 0, 1) := by decide +kernel
theorem dX7_way_40 : decode cX7_way 40 = .ok (.iload_n 1, 1) := by decide +kernel
theorem dX7_way_41 : decode cX7_way 41 = .ok (.iload_n 2, 1) := by decide +kernel
theorem dX7_way_42 : decode cX7_way 42 = .ok (.iload_n 3, 1) := by decide +kernel
theorem dX7_way_43 : decode cX7_way 43 = .ok (.invokevirtual 108, 3) := by decide +kernel
theorem dX7_way_46 : decode cX7_way 46 = .ok (.goto 8, 3) := by decide +kernel
theorem dX7_way_49 : decode cX7_way 49 = .ok (.aload_n 0, 1) := by decide +kernel
theorem dX7_way_50 : decode cX7_way 50 = .ok (.iconst 1, 1) := by decide +kernel
theorem dX7_way_51 : decode cX7_way 51 = .ok (.invokevirtual 72, 3) := by decide +kernel
theorem dX7_way_54 : decode cX7_way 54 = .ok (.ireturn, 1) := by decide +kernel
theorem dX7_differsAt_0 : decode cX7_differsAt 0 = .ok (.iload_n 1, 1) := by decide +kernel
theorem dX7_differsAt_1 : decode cX7_differsAt 1 = .ok (.aload_n 0, 1) := by decide +kernel
theorem dX7_differsAt_2 : decode cX7_differsAt 2 = .ok (.getfield 17, 3) := by decide +kernel
theorem dX7_differsAt_5 : decode cX7_differsAt 5 = .ok (.iconst 0, 1) := by decide +kernel
theorem dX7_differsAt_6 : decode cX7_differsAt 6 = .ok (.aaload, 1) := by decide +kernel
theorem dX7_differsAt_7 : decode cX7_differsAt 7 = .ok (.iconst 0, 1) := by decide +kernel
theorem dX7_differsAt_8 : decode cX7_differsAt 8 = .ok (.iaload, 1) := by decide +kernel
theorem dX7_differsAt_9 : decode cX7_differsAt 9 = .ok (.if_icmp .ge 7, 3) := by decide +kernel
theorem dX7_differsAt_12 : decode cX7_differsAt 12 = .ok (.iconst 1, 1) := by decide +kernel
theorem dX7_differsAt_13 : decode cX7_differsAt 13 = .ok (.goto 4, 3) := by decide +kernel
theorem dX7_differsAt_16 : decode cX7_differsAt 16 = .ok (.iconst 0, 1) := by decide +kernel
theorem dX7_differsAt_17 : decode cX7_differsAt 17 = .ok (.istore_n 2, 1) := by decide +kernel
theorem dX7_differsAt_18 : decode cX7_differsAt 18 = .ok (.iload_n 1, 1) := by decide +kernel
theorem dX7_differsAt_19 : decode cX7_differsAt 19 = .ok (.aload_n 0, 1) := by decide +kernel
theorem dX7_differsAt_20 : decode cX7_differsAt 20 = .ok (.getfield 17, 3) := by decide +kernel
theorem dX7_differsAt_23 : decode cX7_differsAt 23 = .ok (.iconst 1, 1) := by decide +kernel
theorem dX7_differsAt_24 : decode cX7_differsAt 24 = .ok (.aaload, 1) := by decide +kernel
theorem dX7_differsAt_25 : decode cX7_differsAt 25 = .ok (.iconst 0, 1) := by decide +kernel
theorem dX7_differsAt_26 : decode cX7_differsAt 26 = .ok (.iaload, 1) := by decide +kernel
theorem dX7_differsAt_27 : decode cX7_differsAt 27 = .ok (.if_icmp .ge 7, 3) := by decide +kernel
theorem dX7_differsAt_30 : decode cX7_differsAt 30 = .ok (.iconst 1, 1) := by decide +kernel
theorem dX7_differsAt_31 : decode cX7_differsAt 31 = .ok (.goto 4, 3) := by decide +kernel
theorem dX7_differsAt_34 : decode cX7_differsAt 34 = .ok (.iconst 0, 1) := by decide +kernel
theorem dX7_differsAt_35 : decode cX7_differsAt 35 = .ok (.istore_n 3, 1) := by decide +kernel
theorem dX7_differsAt_36 : decode cX7_differsAt 36 = .ok (.iload_n 2, 1) := by decide +kernel
theorem dX7_differsAt_37 : decode cX7_differsAt 37 = .ok (.iload_n 3, 1) := by decide +kernel
theorem dX7_differsAt_38 : decode cX7_differsAt 38 = .ok (.if_icmp .ne 32, 3) := by decide +kernel
theorem dX7_differsAt_41 : decode cX7_differsAt 41 = .ok (.iload_n 2, 1) := by decide +kernel
theorem dX7_differsAt_42 : decode cX7_differsAt 42 = .ok (.ifCond .eq 32, 3) := by decide +kernel
theorem dX7_differsAt_45 : decode cX7_differsAt 45 = .ok (.aload_n 0, 1) := by decide +kernel
theorem dX7_differsAt_46 : decode cX7_differsAt 46 = .ok (.getfield 11, 3) := by decide +kernel
theorem dX7_differsAt_49 : decode cX7_differsAt 49 = .ok (.iconst 0, 1) := by decide +kernel
theorem dX7_differsAt_50 : decode cX7_differsAt 50 = .ok (.aaload, 1) := by decide +kernel
theorem dX7_differsAt_51 : decode cX7_differsAt 51 = .ok (.iload_n 1, 1) := by decide +kernel
theorem dX7_differsAt_52 : decode cX7_differsAt 52 = .ok (.iaload, 1) := by decide +kernel
theorem dX7_differsAt_53 : decode cX7_differsAt 53 = .ok (.invokestatic 43, 3) := by decide +kernel
theorem dX7_differsAt_56 : decode cX7_differsAt 56 = .ok (.aload_n 0, 1) := by decide +kernel
theorem dX7_differsAt_57 : decode cX7_differsAt 57 = .ok (.getfield 11, 3) := by decide +kernel
theorem dX7_differsAt_60 : decode cX7_differsAt 60 = .ok (.iconst 1, 1) := by decide +kernel
theorem dX7_differsAt_61 : decode cX7_differsAt 61 = .ok (.aaload, 1) := by decide +kernel
theorem dX7_differsAt_62 : decode cX7_differsAt 62 = .ok (.iload_n 1, 1) := by decide +kernel
theorem dX7_differsAt_63 : decode cX7_differsAt 63 = .ok (.iaload, 1) := by decide +kernel
theorem dX7_differsAt_64 : decode cX7_differsAt 64 = .ok (.invokestatic 43, 3) := by decide +kernel
theorem dX7_differsAt_67 : decode cX7_differsAt 67 = .ok (.if_icmp .eq 7, 3) := by decide +kernel
theorem dX7_differsAt_70 : decode cX7_differsAt 70 = .ok (.iconst 1, 1) := by decide +kernel
theorem dX7_differsAt_71 : decode cX7_differsAt 71 = .ok (.goto 4, 3) := by decide +kernel
theorem dX7_differsAt_74 : decode cX7_differsAt 74 = .ok (.iconst 0, 1) := by decide +kernel
theorem dX7_differsAt_75 : decode cX7_differsAt 75 = .ok (.ireturn, 1) := by decide +kernel
theorem dX7_longer_0 : decode cX7_longer 0 = .ok (.aload_n 0, 1) := by decide +kernel
theorem dX7_longer_1 : decode cX7_longer 1 = .ok (.getfield 17, 3) := by decide +kernel
theorem dX7_longer_4 : decode cX7_longer 4 = .ok (.iconst 0, 1) := by decide +kernel
theorem dX7_longer_5 : decode cX7_longer 5 = .ok (.aaload, 1) := by decide +kernel
theorem dX7_longer_6 : decode cX7_longer 6 = .ok (.iconst 0, 1) := by decide +kernel
theorem dX7_longer_7 : decode cX7_longer 7 = .ok (.iaload, 1) := by decide +kernel
theorem dX7_longer_8 : decode cX7_longer 8 = .ok (.aload_n 0, 1) := by decide +kernel
theorem dX7_longer_9 : decode cX7_longer 9 = .ok (.getfield 17, 3) := by decide +kernel
theorem dX7_longer_12 : decode cX7_longer 12 = .ok (.iconst 1, 1) := by decide +kernel
theorem dX7_longer_13 : decode cX7_longer 13 = .ok (.aaload, 1) := by decide +kernel
theorem dX7_longer_14 : decode cX7_longer 14 = .ok (.iconst 0, 1) := by decide +kernel
theorem dX7_longer_15 : decode cX7_longer 15 = .ok (.iaload, 1) := by decide +kernel
theorem dX7_longer_16 : decode cX7_longer 16 = .ok (.invokestatic 112, 3) := by decide +kernel
theorem dX7_longer_19 : decode cX7_longer 19 = .ok (.ireturn, 1) := by decide +kernel
