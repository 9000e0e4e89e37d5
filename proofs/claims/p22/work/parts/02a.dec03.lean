theorem dX6_author_0 : decode cX6_author 0 = .ok (.aload_n 0, 1) := by decide +kernel
theorem dX6_author_1 : decode cX6_author 1 = .ok (.iload_n 1, 1) := by decide +kernel
theorem dX6_author_2 : decode cX6_author 2 = .ok (.iload_n 2, 1) := by decide +kernel
theorem dX6_author_3 : decode cX6_author 3 = .ok (.invokevirtual 94, 3) := by decide +kernel
theorem dX6_author_6 : decode cX6_author 6 = .ok (.aload_n 0, 1) := by decide +kernel
theorem dX6_author_7 : decode cX6_author 7 = .ok (.iload_n 1, 1) := by decide +kernel
theorem dX6_author_8 : decode cX6_author 8 = .ok (.invokevirtual 69, 3) := by decide +kernel
theorem dX6_author_11 : decode cX6_author 11 = .ok (.getfield 97, 3) := by decide +kernel
theorem dX6_author_14 : decode cX6_author 14 = .ok (.getfield 147, 3) := by decide +kernel
theorem dX6_author_17 : decode cX6_author 17 = .ok (.iload_n 2, 1) := by decide +kernel
theorem dX6_author_18 : decode cX6_author 18 = .ok (.invokevirtual 107, 3) := by decide +kernel
theorem dX6_author_21 : decode cX6_author 21 = .ok (.ireturn, 1) := by decide +kernel
theorem dX6_about_0 : decode cX6_about 0 = .ok (.iload_n 1, 1) := by decide +kernel
theorem dX6_about_1 : decode cX6_about 1 = .ok (.invokestatic 120, 3) := by decide +kernel
theorem dX6_about_4 : decode cX6_about 4 = .ok (.aload_n 0, 1) := by decide +kernel
theorem dX6_about_5 : decode cX6_about 5 = .ok (.iload_n 1, 1) := by decide +kernel
theorem dX6_about_6 : decode cX6_about 6 = .ok (.invokevirtual 69, 3) := by decide +kernel
theorem dX6_about_9 : decode cX6_about 9 = .ok (.astore_n 3, 1) := by decide +kernel
theorem dX6_about_10 : decode cX6_about 10 = .ok (.iload_n 2, 1) := by decide +kernel
theorem dX6_about_11 : decode cX6_about 11 = .ok (.tableswitch 89 0 6 #[41, 49, 54, 62, 70, 75, 80], 41) := by decide +kernel
theorem dX6_about_52 : decode cX6_about 52 = .ok (.aload_n 3, 1) := by decide +kernel
theorem dX6_about_53 : decode cX6_about 53 = .ok (.getfield 97, 3) := by decide +kernel
theorem dX6_about_56 : decode cX6_about 56 = .ok (.invokevirtual 150, 3) := by decide +kernel
theorem dX6_about_59 : decode cX6_about 59 = .ok (.ireturn, 1) := by decide +kernel
theorem dX6_about_60 : decode cX6_about 60 = .ok (.aload_n 3, 1) := by decide +kernel
theorem dX6_about_61 : decode cX6_about 61 = .ok (.getfield 151, 3) := by decide +kernel
theorem dX6_about_64 : decode cX6_about 64 = .ok (.ireturn, 1) := by decide +kernel
theorem dX6_about_65 : decode cX6_about 65 = .ok (.aload_n 3, 1) := by decide +kernel
theorem dX6_about_66 : decode cX6_about 66 = .ok (.getfield 73, 3) := by decide +kernel
theorem dX6_about_69 : decode cX6_about 69 = .ok (.invokevirtual 123, 3) := by decide +kernel
theorem dX6_about_72 : decode cX6_about 72 = .ok (.ireturn, 1) := by decide +kernel
theorem dX6_about_73 : decode cX6_about 73 = .ok (.aload_n 3, 1) := by decide +kernel
theorem dX6_about_74 : decode cX6_about 74 = .ok (.getfield 85, 3) := by decide +kernel
theorem dX6_about_77 : decode cX6_about 77 = .ok (.invokevirtual 89, 3) := by decide +kernel
theorem dX6_about_80 : decode cX6_about 80 = .ok (.ireturn, 1) := by decide +kernel
theorem dX6_about_81 : decode cX6_about 81 = .ok (.aload_n 3, 1) := by decide +kernel
theorem dX6_about_82 : decode cX6_about 82 = .ok (.getfield 154, 3) := by decide +kernel
theorem dX6_about_85 : decode cX6_about 85 = .ok (.ireturn, 1) := by decide +kernel
theorem dX6_about_86 : decode cX6_about 86 = .ok (.aload_n 3, 1) := by decide +kernel
theorem dX6_about_87 : decode cX6_about 87 = .ok (.getfield 157, 3) := by decide +kernel
theorem dX6_about_90 : decode cX6_about 90 = .ok (.ireturn, 1) := by decide +kernel
theorem dX6_about_91 : decode cX6_about 91 = .ok (.aload_n 3, 1) := by decide +kernel
theorem dX6_about_92 : decode cX6_about 92 = .ok (.getfield 97, 3) := by decide +kernel
theorem dX6_about_95 : decode cX6_about 95 = .ok (.iload_n 1, 1) := by decide +kernel
theorem dX6_about_96 : decode cX6_about 96 = .ok (.invokevirtual 160, 3) := by decide +kernel
theorem dX6_about_99 : decode cX6_about 99 = .ok (.ireturn, 1) := by decide +kernel
theorem dX6_about_100 : decode cX6_about 100 = .ok (.new 28, 3) := by decide +kernel
theorem dX6_about_103 : decode cX6_about 103 = .ok (.dup, 1) := by decide +kernel
theorem dX6_about_104 : decode cX6_about 104 = .ok (.ldc 163, 2) := by decide +kernel
theorem dX6_about_106 : decode cX6_about 106 = .ok (.invokespecial 32, 3) := by decide +kernel
theorem dX6_about_109 : decode cX6_about 109 = .ok (.athrow, 1) := by decide +kernel
theorem dX6_way_0 : decode cX6_way 0 = .ok (.iload_n 1, 1) := by decide +kernel
theorem dX6_way_1 : decode cX6_way 1 = .ok (.invokestatic 120, 3) := by decide +kernel
theorem dX6_way_4 : decode cX6_way 4 = .ok (.aload_n 0, 1) := by decide +kernel
theorem dX6_way_5 : decode cX6_way 5 = .ok (.iload_n 1, 1) := by decide +kernel
theorem dX6_way_6 : decode cX6_way 6 = .ok (.invokevirtual 69, 3) := by decide +kernel
theorem dX6_way_9 : decode cX6_way 9 = .ok (.getfield 85, 3) := by decide +kernel
theorem dX6_way_12 : decode cX6_way 12 = .ok (.astore 4, 2) := by decide +kernel
theorem dX6_way_14 : decode cX6_way 14 = .ok (.iload_n 2, 1) := by decide +kernel
theorem dX6_way_15 : decode cX6_way 15 = .ok (.ifCond .lt 12, 3) := by decide +kernel
theorem dX6_way_18 : decode cX6_way 18 = .ok (.iload_n 2, 1) := by decide +kernel
theorem dX6_way_19 : decode cX6_way 19 = .ok (.aload 4, 2) := by decide +kernel
theorem dX6_way_21 : decode cX6_way 21 = .ok (.invokevirtual 89, 3) := by decide +kernel
theorem dX6_way_24 : decode cX6_way 24 = .ok (.if_icmp .lt 13, 3) := by decide +kernel
theorem dX6_way_27 : decode cX6_way 27 = .ok (.new 28, 3) := by decide +kernel
theorem dX6_way_30 : decode cX6_way 30 = .ok (.dup, 1) := by decide +kernel
theorem dX6_way_31 : decode cX6_way 31 = .ok (.ldc 165, 2) := by decide +kernel
theorem dX6_way_33 : decode cX6_way 33 = .ok (.invokespecial 32, 3) := by decide +kernel
theorem dX6_way_36 : decode cX6_way 36 = .ok (.athrow, 1) := by decide +kernel
theorem dX6_way_37 : decode cX6_way 37 = .ok (.iload_n 3, 1) := by decide +kernel
theorem dX6_way_38 : decode cX6_way 38 = .ok (.tableswitch 70 0 3 #[30, 40, 50, 60], 30) := by decide +kernel
theorem dX6_way_68 : decode cX6_way 68 = .ok (.aload 4, 2) := by decide +kernel
theorem dX6_way_70 : decode cX6_way 70 = .ok (.getfield 167, 3) := by decide +kernel
theorem dX6_way_73 : decode cX6_way 73 = .ok (.iload_n 2, 1) := by decide +kernel
theorem dX6_way_74 : decode cX6_way 74 = .ok (.invokevirtual 107, 3) := by decide +kernel
theorem dX6_way_77 : decode cX6_way 77 = .ok (.ireturn, 1) := by decide +kernel
theorem dX6_way_78 : decode cX6_way 78 = .ok (.aload 4, 2) := by decide +kernel
theorem dX6_way_80 : decode cX6_way 80 = .ok (.getfield 170, 3) := by decide +kernel
theorem dX6_way_83 : decode cX6_way 83 = .ok (.iload_n 2, 1) := by decide +kernel
theorem dX6_way_84 : decode cX6_way 84 = .ok (.invokevirtual 107, 3) := by decide +kernel
theorem dX6_way_87 : decode cX6_way 87 = .ok (.ireturn, 1) := by decide +kernel
theorem dX6_way_88 : decode cX6_way 88 = .ok (.aload 4, 2) := by decide +kernel
theorem dX6_way_90 : decode cX6_way 90 = .ok (.getfield 173, 3) := by decide +kernel
theorem dX6_way_93 : decode cX6_way 93 = .ok (.iload_n 2, 1) := by decide +kernel
theorem dX6_way_94 : decode cX6_way 94 = .ok (.invokevirtual 107, 3) := by decide +kernel
theorem dX6_way_97 : decode cX6_way 97 = .ok (.ireturn, 1) := by decide +kernel
theorem dX6_way_98 : decode cX6_way 98 = .ok (.aload 4, 2) := by decide +kernel
theorem dX6_way_100 : decode cX6_way 100 = .ok (.getfield 174, 3) := by decide +kernel
theorem dX6_way_103 : decode cX6_way 103 = .ok (.iload_n 2, 1) := by decide +kernel
theorem dX6_way_104 : decode cX6_way 104 = .ok (.invokevirtual 107, 3) := by decide +kernel
theorem dX6_way_107 : decode cX6_way 107 = .ok (.ireturn, 1) := by decide +kernel
theorem dX6_way_108 : decode cX6_way 108 = .ok (.new 28, 3) := by decide +kernel
theorem dX6_way_111 : decode cX6_way 111 = .ok (.dup, 1) := by decide +kernel
theorem dX6_way_112 : decode cX6_way 112 = .ok (.ldc 177, 2) := by decide +kernel
theorem dX6_way_114 : decode cX6_way 114 = .ok (.invokespecial 32, 3) := by decide +kernel
theorem dX6_way_117 : decode cX6_way 117 = .ok (.athrow, 1) := by decide +kernel
theorem dX6_count_0 : decode cX6_count 0 = .ok (.iload_n 1, 1) := by decide +kernel
theorem dX6_count_1 : decode cX6_count 1 = .ok (.tableswitch 100 0 6 #[43, 48, 53, 58, 63, 68, 84], 43) := by decide +kernel
theorem dX6_count_44 : decode cX6_count 44 = .ok (.aload_n 0, 1) := by decide +kernel
theorem dX6_count_45 : decode cX6_count 45 = .ok (.getfield 44, 3) := by decide +kernel
theorem dX6_count_48 : decode cX6_count 48 = .ok (.ireturn, 1) := by decide +kernel
theorem dX6_count_49 : decode cX6_count 49 = .ok (.aload_n 0, 1) := by decide +kernel
theorem dX6_count_50 : decode cX6_count 50 = .ok (.invokevirtual 35, 3) := by decide +kernel
theorem dX6_count_53 : decode cX6_count 53 = .ok (.ireturn, 1) := by decide +kernel
theorem dX6_count_54 : decode cX6_count 54 = .ok (.aload_n 0, 1) := by decide +kernel
theorem dX6_count_55 : decode cX6_count 55 = .ok (.invokevirtual 179, 3) := by decide +kernel
theorem dX6_count_58 : decode cX6_count 58 = .ok (.ireturn, 1) := by decide +kernel
theorem dX6_count_59 : decode cX6_count 59 = .ok (.aload_n 0, 1) := by decide +kernel
theorem dX6_count_60 : decode cX6_count 60 = .ok (.invokevirtual 182, 3) := by decide +kernel
theorem dX6_count_63 : decode cX6_count 63 = .ok (.ireturn, 1) := by decide +kernel
theorem dX6_count_64 : decode cX6_count 64 = .ok (.aload_n 0, 1) := by decide +kernel
theorem dX6_count_65 : decode cX6_count 65 = .ok (.getfield 185, 3) := by decide +kernel
theorem dX6_count_68 : decode cX6_count 68 = .ok (.ireturn, 1) := by decide +kernel
theorem dX6_count_69 : decode cX6_count 69 = .ok (.aload_n 0, 1) := by decide +kernel
theorem dX6_count_70 : decode cX6_count 70 = .ok (.getfield 10, 3) := by decide +kernel
theorem dX6_count_73 : decode cX6_count 73 = .ok (.getfield 151, 3) := by decide +kernel
theorem dX6_count_76 : decode cX6_count 76 = .ok (.aload_n 0, 1) := by decide +kernel
theorem dX6_count_77 : decode cX6_count 77 = .ok (.getfield 16, 3) := by decide +kernel
theorem dX6_count_80 : decode cX6_count 80 = .ok (.getfield 151, 3) := by decide +kernel
theorem dX6_count_83 : decode cX6_count 83 = .ok (.iadd, 1) := by decide +kernel
theorem dX6_count_84 : decode cX6_count 84 = .ok (.ireturn, 1) := by decide +kernel
theorem dX6_count_85 : decode cX6_count 85 = .ok (.aload_n 0, 1) := by decide +kernel
theorem dX6_count_86 : decode cX6_count 86 = .ok (.getfield 10, 3) := by decide +kernel
theorem dX6_count_89 : decode cX6_count 89 = .ok (.getfield 154, 3) := by decide +kernel
theorem dX6_count_92 : decode cX6_count 92 = .ok (.aload_n 0, 1) := by decide +kernel
theorem dX6_count_93 : decode cX6_count 93 = .ok (.getfield 16, 3) := by decide +kernel
theorem dX6_count_96 : decode cX6_count 96 = .ok (.getfield 154, 3) := by decide +kernel
theorem dX6_count_99 : decode cX6_count 99 = .ok (.iadd, 1) := by decide +kernel
theorem dX6_count_100 : decode cX6_count 100 = .ok (.ireturn, 1) := by decide +kernel
theorem dX6_count_101 : decode cX6_count 101 = .ok (.new 28, 3) := by decide +kernel
theorem dX6_count_104 : decode cX6_count 104 = .ok (.dup, 1) := by decide +kernel
theorem dX6_count_105 : decode cX6_count 105 = .ok (.ldc 188, 2) := by decide +kernel
theorem dX6_count_107 : decode cX6_count 107 = .ok (.invokespecial 32, 3) := by decide +kernel
theorem dX6_count_110 : decode cX6_count 110 = .ok (.athrow, 1) := by decide +kernel
theorem dX6_first_0 : decode cX6_first 0 = .ok (.aload_n 0, 1) := by decide +kernel
theorem dX6_first_1 : decode cX6_first 1 = .ok (.invokevirtual 190, 3) := by decide +kernel
theorem dX6_first_4 : decode cX6_first 4 = .ok (.istore_n 1, 1) := by decide +kernel
theorem dX6_first_5 : decode cX6_first 5 = .ok (.iconst 0, 1) := by decide +kernel
theorem dX6_first_6 : decode cX6_first 6 = .ok (.istore_n 2, 1) := by decide +kernel
theorem dX6_first_7 : decode cX6_first 7 = .ok (.iload_n 2, 1) := by decide +kernel
theorem dX6_first_8 : decode cX6_first 8 = .ok (.iload_n 1, 1) := by decide +kernel
theorem dX6_first_9 : decode cX6_first 9 = .ok (.if_icmp .ge 19, 3) := by decide +kernel
theorem dX6_first_12 : decode cX6_first 12 = .ok (.aload_n 0, 1) := by decide +kernel
theorem dX6_first_13 : decode cX6_first 13 = .ok (.iload_n 2, 1) := by decide +kernel
theorem dX6_first_14 : decode cX6_first 14 = .ok (.invokevirtual 193, 3) := by decide +kernel
theorem dX6_first_17 : decode cX6_first 17 = .ok (.ifCond .eq 5, 3) := by decide +kernel
theorem dX6_first_20 : decode cX6_first 20 = .ok (.iload_n 2, 1) := by decide +kernel
theorem dX6_first_21 : decode cX6_first 21 = .ok (.ireturn, 1) := by decide +kernel
theorem dX6_first_22 : decode cX6_first 22 = .ok (.iinc 2 1, 3) := by decide +kernel
theorem dX6_first_25 : decode cX6_first 25 = .ok (.goto (-18), 3) := by decide +kernel
theorem dX6_first_28 : decode cX6_first 28 = .ok (.iconst (-1), 1) := by decide +kernel
theorem dX6_first_29 : decode cX6_first 29 = .ok (.ireturn, 1) := by decide +kernel
theorem dX6_page_0 : decode cX6_page 0 = .ok (.iload_n 1, 1) := by decide +kernel
theorem dX6_page_1 : decode cX6_page 1 = .ok (.ifCond .lt 11, 3) := by decide +kernel
theorem dX6_page_4 : decode cX6_page 4 = .ok (.iload_n 1, 1) := by decide +kernel
theorem dX6_page_5 : decode cX6_page 5 = .ok (.aload_n 0, 1) := by decide +kernel
theorem dX6_page_6 : decode cX6_page 6 = .ok (.invokevirtual 179, 3) := by decide +kernel
theorem dX6_page_9 : decode cX6_page 9 = .ok (.if_icmp .lt 13, 3) := by decide +kernel
theorem dX6_page_12 : decode cX6_page 12 = .ok (.new 28, 3) := by decide +kernel
theorem dX6_page_15 : decode cX6_page 15 = .ok (.dup, 1) := by decide +kernel
theorem dX6_page_16 : decode cX6_page 16 = .ok (.ldc 197, 2) := by decide +kernel
theorem dX6_page_18 : decode cX6_page 18 = .ok (.invokespecial 32, 3) := by decide +kernel
theorem dX6_page_21 : decode cX6_page 21 = .ok (.athrow, 1) := by decide +kernel
theorem dX6_page_22 : decode cX6_page 22 = .ok (.aload_n 0, 1) := by decide +kernel
theorem dX6_page_23 : decode cX6_page 23 = .ok (.iload_n 1, 1) := by decide +kernel
theorem dX6_page_24 : decode cX6_page 24 = .ok (.invokevirtual 199, 3) := by decide +kernel
theorem dX6_page_27 : decode cX6_page 27 = .ok (.ireturn, 1) := by decide +kernel
theorem dX6_goes_0 : decode cX6_goes 0 = .ok (.aload_n 0, 1) := by decide +kernel
theorem dX6_goes_1 : decode cX6_goes 1 = .ok (.iload_n 1, 1) := by decide +kernel
theorem dX6_goes_2 : decode cX6_goes 2 = .ok (.iload_n 2, 1) := by decide +kernel
theorem dX6_goes_3 : decode cX6_goes 3 = .ok (.invokevirtual 94, 3) := by decide +kernel
theorem dX6_goes_6 : decode cX6_goes 6 = .ok (.aload_n 0, 1) := by decide +kernel
theorem dX6_goes_7 : decode cX6_goes 7 = .ok (.iload_n 1, 1) := by decide +kernel
theorem dX6_goes_8 : decode cX6_goes 8 = .ok (.iload_n 2, 1) := by decide +kernel
theorem dX6_goes_9 : decode cX6_goes 9 = .ok (.invokevirtual 202, 3) := by decide +kernel
theorem dX6_goes_12 : decode cX6_goes 12 = .ok (.ireturn, 1) := by decide +kernel
theorem dX6_would_0 : decode cX6_would 0 = .ok (.aload_n 0, 1) := by decide +kernel
theorem dX6_would_1 : decode cX6_would 1 = .ok (.iload_n 1, 1) := by decide +kernel
theorem dX6_would_2 : decode cX6_would 2 = .ok (.iload_n 2, 1) := by decide +kernel
theorem dX6_would_3 : decode cX6_would 3 = .ok (.invokevirtual 48, 3) := by decide +kernel
theorem dX6_would_6 : decode cX6_would 6 = .ok (.iload_n 3, 1) := by decide +kernel
theorem dX6_would_7 : decode cX6_would 7 = .ok (.iload 4, 2) := by decide +kernel
theorem dX6_would_9 : decode cX6_would 9 = .ok (.invokestatic 52, 3) := by decide +kernel
theorem dX6_would_12 : decode cX6_would 12 = .ok (.new 19, 3) := by decide +kernel
theorem dX6_would_15 : decode cX6_would 15 = .ok (.dup, 1) := by decide +kernel
theorem dX6_would_16 : decode cX6_would 16 = .ok (.iconst 1, 1) := by decide +kernel
theorem dX6_would_17 : decode cX6_would 17 = .ok (.iload_n 2, 1) := by decide +kernel
theorem dX6_would_18 : decode cX6_would 18 = .ok (.iload_n 3, 1) := by decide +kernel
theorem dX6_would_19 : decode cX6_would 19 = .ok (.iload 4, 2) := by decide +kernel
theorem dX6_would_21 : decode cX6_would 21 = .ok (.iconst (-1), 1) := by decide +kernel
theorem dX6_would_22 : decode cX6_would 22 = .ok (.invokespecial 21, 3) := by decide +kernel
theorem dX6_would_25 : decode cX6_would 25 = .ok (.astore 5, 2) := by decide +kernel
theorem dX6_would_27 : decode cX6_would 27 = .ok (.aload_n 0, 1) := by decide +kernel
theorem dX6_would_28 : decode cX6_would 28 = .ok (.iload_n 1, 1) := by decide +kernel
theorem dX6_would_29 : decode cX6_would 29 = .ok (.invokevirtual 69, 3) := by decide +kernel
theorem dX6_would_32 : decode cX6_would 32 = .ok (.getfield 85, 3) := by decide +kernel
theorem dX6_would_35 : decode cX6_would 35 = .ok (.astore 6, 2) := by decide +kernel
theorem dX6_would_37 : decode cX6_would 37 = .ok (.aload 6, 2) := by decide +kernel
theorem dX6_would_39 : decode cX6_would 39 = .ok (.invokevirtual 89, 3) := by decide +kernel
theorem dX6_would_42 : decode cX6_would 42 = .ok (.istore 7, 2) := by decide +kernel
theorem dX6_would_44 : decode cX6_would 44 = .ok (.iconst 0, 1) := by decide +kernel
theorem dX6_would_45 : decode cX6_would 45 = .ok (.istore 8, 2) := by decide +kernel
theorem dX6_would_47 : decode cX6_would 47 = .ok (.iload 8, 2) := by decide +kernel
theorem dX6_would_49 : decode cX6_would 49 = .ok (.iload 7, 2) := by decide +kernel
theorem dX6_would_51 : decode cX6_would 51 = .ok (.if_icmp .ge 50, 3) := by decide +kernel
theorem dX6_would_54 : decode cX6_would 54 = .ok (.aload 6, 2) := by decide +kernel
theorem dX6_would_56 : decode cX6_would 56 = .ok (.iload 8, 2) := by decide +kernel
theorem dX6_would_58 : decode cX6_would 58 = .ok (.aload_n 0, 1) := by decide +kernel
theorem dX6_would_59 : decode cX6_would 59 = .ok (.getfield 24, 3) := by decide +kernel
theorem dX6_would_62 : decode cX6_would 62 = .ok (.invokevirtual 206, 3) := by decide +kernel
theorem dX6_would_65 : decode cX6_would 65 = .ok (.aload 5, 2) := by decide +kernel
theorem dX6_would_67 : decode cX6_would 67 = .ok (.aload_n 0, 1) := by decide +kernel
theorem dX6_would_68 : decode cX6_would 68 = .ok (.getfield 24, 3) := by decide +kernel
theorem dX6_would_71 : decode cX6_would 71 = .ok (.getfield 209, 3) := by decide +kernel
theorem dX6_would_74 : decode cX6_would 74 = .ok (.aload_n 0, 1) := by decide +kernel
theorem dX6_would_75 : decode cX6_would 75 = .ok (.getfield 24, 3) := by decide +kernel
theorem dX6_would_78 : decode cX6_would 78 = .ok (.getfield 212, 3) := by decide +kernel
theorem dX6_would_81 : decode cX6_would 81 = .ok (.aload_n 0, 1) := by decide +kernel
theorem dX6_would_82 : decode cX6_would 82 = .ok (.iload_n 1, 1) := by decide +kernel
theorem dX6_would_83 : decode cX6_would 83 = .ok (.aload 5, 2) := by decide +kernel
theorem dX6_would_85 : decode cX6_would 85 = .ok (.aload_n 0, 1) := by decide +kernel
theorem dX6_would_86 : decode cX6_would 86 = .ok (.getfield 24, 3) := by decide +kernel
theorem dX6_would_89 : decode cX6_would 89 = .ok (.invokevirtual 215, 3) := by decide +kernel
theorem dX6_would_92 : decode cX6_would 92 = .ok (.invokevirtual 219, 3) := by decide +kernel
theorem dX6_would_95 : decode cX6_would 95 = .ok (.iinc 8 1, 3) := by decide +kernel
theorem dX6_would_98 : decode cX6_would 98 = .ok (.goto (-51), 3) := by decide +kernel
theorem dX6_would_101 : decode cX6_would 101 = .ok (.aload 5, 2) := by decide +kernel
theorem dX6_would_103 : decode cX6_would 103 = .ok (.getfield 212, 3) := by decide +kernel
theorem dX6_would_106 : decode cX6_would 106 = .ok (.ireturn, 1) := by decide +kernel
theorem dX6_undoes_0 : decode cX6_undoes 0 = .ok (.iload_n 1, 1) := by decide +kernel
theorem dX6_undoes_1 : decode cX6_undoes 1 = .ok (.invokestatic 120, 3) := by decide +kernel
theorem dX6_undoes_4 : decode cX6_undoes 4 = .ok (.aload_n 0, 1) := by decide +kernel
theorem dX6_undoes_5 : decode cX6_undoes 5 = .ok (.iload_n 1, 1) := by decide +kernel
theorem dX6_undoes_6 : decode cX6_undoes 6 = .ok (.invokevirtual 126, 3) := by decide +kernel
theorem dX6_undoes_9 : decode cX6_undoes 9 = .ok (.ireturn, 1) := by decide +kernel
theorem dX6_mean_0 : decode cX6_mean 0 = .ok (.aload_n 0, 1) := by decide +kernel
theorem dX6_mean_1 : decode cX6_mean 1 = .ok (.getfield 10, 3) := by decide +kernel
theorem dX6_mean_4 : decode cX6_mean 4 = .ok (.getfield 97, 3) := by decide +kernel
theorem dX6_mean_7 : decode cX6_mean 7 = .ok (.invokevirtual 150, 3) := by decide +kernel
theorem dX6_mean_10 : decode cX6_mean 10 = .ok (.aload_n 0, 1) := by decide +kernel
theorem dX6_mean_11 : decode cX6_mean 11 = .ok (.getfield 16, 3) := by decide +kernel
theorem dX6_mean_14 : decode cX6_mean 14 = .ok (.getfield 97, 3) := by decide +kernel
theorem dX6_mean_17 : decode cX6_mean 17 = .ok (.invokevirtual 150, 3) := by decide +kernel
theorem dX6_mean_20 : decode cX6_mean 20 = .ok (.iadd, 1) := by decide +kernel
theorem dX6_mean_21 : decode cX6_mean 21 = .ok (.i2d, 1) := by decide +kernel
theorem dX6_mean_22 : decode cX6_mean 22 = .ok (.ldc2_w 223, 3) := by decide +kernel
theorem dX6_mean_25 : decode cX6_mean 25 = .ok (.ddiv, 1) := by decide +kernel
theorem dX6_mean_26 : decode cX6_mean 26 = .ok (.dreturn, 1) := by decide +kernel
theorem dX6_checkScribe_0 : decode cX6_checkScribe 0 = .ok (.iload_n 0, 1) := by decide +kernel
theorem dX6_checkScribe_1 : decode cX6_checkScribe 1 = .ok (.ifCond .lt 8, 3) := by decide +kernel
theorem dX6_checkScribe_4 : decode cX6_checkScribe 4 = .ok (.iload_n 0, 1) := by decide +kernel
theorem dX6_checkScribe_5 : decode cX6_checkScribe 5 = .ok (.iconst 1, 1) := by decide +kernel
theorem dX6_checkScribe_6 : decode cX6_checkScribe 6 = .ok (.if_icmp .le 13, 3) := by decide +kernel
theorem dX6_checkScribe_9 : decode cX6_checkScribe 9 = .ok (.new 28, 3) := by decide +kernel
theorem dX6_checkScribe_12 : decode cX6_checkScribe 12 = .ok (.dup, 1) := by decide +kernel
theorem dX6_checkScribe_13 : decode cX6_checkScribe 13 = .ok (.ldc 236, 2) := by decide +kernel
theorem dX6_checkScribe_15 : decode cX6_checkScribe 15 = .ok (.invokespecial 32, 3) := by decide +kernel
theorem dX6_checkScribe_18 : decode cX6_checkScribe 18 = .ok (.athrow, 1) := by decide +kernel
theorem dX6_checkScribe_19 : decode cX6_checkScribe 19 = .ok (.return_, 1) := by decide +kernel
theorem dX6_checkPlace_0 : decode cX6_checkPlace 0 = .ok (.iload_n 1, 1) := by decide +kernel
theorem dX6_checkPlace_1 : decode cX6_checkPlace 1 = .ok (.invokestatic 120, 3) := by decide +kernel
theorem dX6_checkPlace_4 : decode cX6_checkPlace 4 = .ok (.iload_n 2, 1) := by decide +kernel
theorem dX6_checkPlace_5 : decode cX6_checkPlace 5 = .ok (.ifCond .lt 18, 3) := by decide +kernel
theorem dX6_checkPlace_8 : decode cX6_checkPlace 8 = .ok (.iload_n 2, 1) := by decide +kernel
theorem dX6_checkPlace_9 : decode cX6_checkPlace 9 = .ok (.aload_n 0, 1) := by decide +kernel
theorem dX6_checkPlace_10 : decode cX6_checkPlace 10 = .ok (.iload_n 1, 1) := by decide +kernel
theorem dX6_checkPlace_11 : decode cX6_checkPlace 11 = .ok (.invokevirtual 69, 3) := by decide +kernel
theorem dX6_checkPlace_14 : decode cX6_checkPlace 14 = .ok (.getfield 97, 3) := by decide +kernel
theorem dX6_checkPlace_17 : decode cX6_checkPlace 17 = .ok (.invokevirtual 150, 3) := by decide +kernel
theorem dX6_checkPlace_20 : decode cX6_checkPlace 20 = .ok (.if_icmp .lt 13, 3) := by decide +kernel
theorem dX6_checkPlace_23 : decode cX6_checkPlace 23 = .ok (.new 28, 3) := by decide +kernel
theorem dX6_checkPlace_26 : decode cX6_checkPlace 26 = .ok (.dup, 1) := by decide +kernel
theorem dX6_checkPlace_27 : decode cX6_checkPlace 27 = .ok (.ldc 238, 2) := by decide +kernel
theorem dX6_checkPlace_29 : decode cX6_checkPlace 29 = .ok (.invokespecial 32, 3) := by decide +kernel
theorem dX6_checkPlace_32 : decode cX6_checkPlace 32 = .ok (.athrow, 1) := by decide +kernel
theorem dX6_checkPlace_33 : decode cX6_checkPlace 33 = .ok (.return_, 1) := by decide +kernel
theorem dX6_checkGap_0 : decode cX6_checkGap 0 = .ok (.iload_n 1, 1) := by decide +kernel
theorem dX6_checkGap_1 : decode cX6_checkGap 1 = .ok (.invokestatic 120, 3) := by decide +kernel
theorem dX6_checkGap_4 : decode cX6_checkGap 4 = .ok (.iload_n 2, 1) := by decide +kernel
theorem dX6_checkGap_5 : decode cX6_checkGap 5 = .ok (.ifCond .lt 18, 3) := by decide +kernel
theorem dX6_checkGap_8 : decode cX6_checkGap 8 = .ok (.iload_n 2, 1) := by decide +kernel
theorem dX6_checkGap_9 : decode cX6_checkGap 9 = .ok (.aload_n 0, 1) := by decide +kernel
theorem dX6_checkGap_10 : decode cX6_checkGap 10 = .ok (.iload_n 1, 1) := by decide +kernel
theorem dX6_checkGap_11 : decode cX6_checkGap 11 = .ok (.invokevirtual 69, 3) := by decide +kernel
theorem dX6_checkGap_14 : decode cX6_checkGap 14 = .ok (.getfield 97, 3) := by decide +kernel
theorem dX6_checkGap_17 : decode cX6_checkGap 17 = .ok (.invokevirtual 150, 3) := by decide +kernel
theorem dX6_checkGap_20 : decode cX6_checkGap 20 = .ok (.if_icmp .le 13, 3) := by decide +kernel
theorem dX6_checkGap_23 : decode cX6_checkGap 23 = .ok (.new 28, 3) := by decide +kernel
theorem dX6_checkGap_26 : decode cX6_checkGap 26 = .ok (.dup, 1) := by decide +kernel
theorem dX6_checkGap_27 : decode cX6_checkGap 27 = .ok (.ldc 240, 2) := by decide +kernel
theorem dX6_checkGap_29 : decode cX6_checkGap 29 = .ok (.invokespecial 32, 3) := by decide +kernel
theorem dX6_checkGap_32 : decode cX6_checkGap 32 = .ok (.athrow, 1) := by decide +kernel
theorem dX6_checkGap_33 : decode cX6_checkGap 33 = .ok (.return_, 1) := by decide +kernel
