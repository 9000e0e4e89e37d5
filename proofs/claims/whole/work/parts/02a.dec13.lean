theorem dX7_lost_0 : decode cX7_lost 0 = .ok (.aload_n 0, 1) := by decide +kernel
theorem dX7_lost_1 : decode cX7_lost 1 = .ok (.iconst 0, 1) := by decide +kernel
theorem dX7_lost_2 : decode cX7_lost 2 = .ok (.putfield 25, 3) := by decide +kernel
theorem dX7_lost_5 : decode cX7_lost 5 = .ok (.iload_n 1, 1) := by decide +kernel
theorem dX7_lost_6 : decode cX7_lost 6 = .ok (.invokestatic 33, 3) := by decide +kernel
theorem dX7_lost_9 : decode cX7_lost 9 = .ok (.ifCond .ne 9, 3) := by decide +kernel
theorem dX7_lost_12 : decode cX7_lost 12 = .ok (.aload_n 0, 1) := by decide +kernel
theorem dX7_lost_13 : decode cX7_lost 13 = .ok (.iconst 1, 1) := by decide +kernel
theorem dX7_lost_14 : decode cX7_lost 14 = .ok (.invokevirtual 72, 3) := by decide +kernel
theorem dX7_lost_17 : decode cX7_lost 17 = .ok (.ireturn, 1) := by decide +kernel
theorem dX7_lost_18 : decode cX7_lost 18 = .ok (.aload_n 0, 1) := by decide +kernel
theorem dX7_lost_19 : decode cX7_lost 19 = .ok (.iload_n 1, 1) := by decide +kernel
theorem dX7_lost_20 : decode cX7_lost 20 = .ok (.invokevirtual 117, 3) := by decide +kernel
theorem dX7_lost_23 : decode cX7_lost 23 = .ok (.astore_n 2, 1) := by decide +kernel
theorem dX7_lost_24 : decode cX7_lost 24 = .ok (.iconst 0, 1) := by decide +kernel
theorem dX7_lost_25 : decode cX7_lost 25 = .ok (.istore_n 3, 1) := by decide +kernel
theorem dX7_lost_26 : decode cX7_lost 26 = .ok (.iconst 0, 1) := by decide +kernel
theorem dX7_lost_27 : decode cX7_lost 27 = .ok (.istore 4, 2) := by decide +kernel
theorem dX7_lost_29 : decode cX7_lost 29 = .ok (.iload 4, 2) := by decide +kernel
theorem dX7_lost_31 : decode cX7_lost 31 = .ok (.aload_n 0, 1) := by decide +kernel
theorem dX7_lost_32 : decode cX7_lost 32 = .ok (.getfield 17, 3) := by decide +kernel
theorem dX7_lost_35 : decode cX7_lost 35 = .ok (.iload_n 1, 1) := by decide +kernel
theorem dX7_lost_36 : decode cX7_lost 36 = .ok (.aaload, 1) := by decide +kernel
theorem dX7_lost_37 : decode cX7_lost 37 = .ok (.iconst 0, 1) := by decide +kernel
theorem dX7_lost_38 : decode cX7_lost 38 = .ok (.iaload, 1) := by decide +kernel
theorem dX7_lost_39 : decode cX7_lost 39 = .ok (.if_icmp .ge 34, 3) := by decide +kernel
theorem dX7_lost_42 : decode cX7_lost 42 = .ok (.iload_n 3, 1) := by decide +kernel
theorem dX7_lost_43 : decode cX7_lost 43 = .ok (.aload_n 2, 1) := by decide +kernel
theorem dX7_lost_44 : decode cX7_lost 44 = .ok (.aload_n 0, 1) := by decide +kernel
theorem dX7_lost_45 : decode cX7_lost 45 = .ok (.getfield 11, 3) := by decide +kernel
theorem dX7_lost_48 : decode cX7_lost 48 = .ok (.iload_n 1, 1) := by decide +kernel
theorem dX7_lost_49 : decode cX7_lost 49 = .ok (.aaload, 1) := by decide +kernel
theorem dX7_lost_50 : decode cX7_lost 50 = .ok (.iload 4, 2) := by decide +kernel
theorem dX7_lost_52 : decode cX7_lost 52 = .ok (.iaload, 1) := by decide +kernel
theorem dX7_lost_53 : decode cX7_lost 53 = .ok (.invokestatic 131, 3) := by decide +kernel
theorem dX7_lost_56 : decode cX7_lost 56 = .ok (.iconst (-1), 1) := by decide +kernel
theorem dX7_lost_57 : decode cX7_lost 57 = .ok (.if_icmp .ne 7, 3) := by decide +kernel
theorem dX7_lost_60 : decode cX7_lost 60 = .ok (.iconst 1, 1) := by decide +kernel
theorem dX7_lost_61 : decode cX7_lost 61 = .ok (.goto 4, 3) := by decide +kernel
theorem dX7_lost_64 : decode cX7_lost 64 = .ok (.iconst 0, 1) := by decide +kernel
theorem dX7_lost_65 : decode cX7_lost 65 = .ok (.iadd, 1) := by decide +kernel
theorem dX7_lost_66 : decode cX7_lost 66 = .ok (.istore_n 3, 1) := by decide +kernel
theorem dX7_lost_67 : decode cX7_lost 67 = .ok (.iinc 4 1, 3) := by decide +kernel
theorem dX7_lost_70 : decode cX7_lost 70 = .ok (.goto (-41), 3) := by decide +kernel
theorem dX7_lost_73 : decode cX7_lost 73 = .ok (.iload_n 3, 1) := by decide +kernel
theorem dX7_lost_74 : decode cX7_lost 74 = .ok (.ireturn, 1) := by decide +kernel
theorem dX7_would_0 : decode cX7_would 0 = .ok (.aload_n 0, 1) := by decide +kernel
theorem dX7_would_1 : decode cX7_would 1 = .ok (.iconst 0, 1) := by decide +kernel
theorem dX7_would_2 : decode cX7_would 2 = .ok (.putfield 25, 3) := by decide +kernel
theorem dX7_would_5 : decode cX7_would 5 = .ok (.iload_n 1, 1) := by decide +kernel
theorem dX7_would_6 : decode cX7_would 6 = .ok (.invokestatic 33, 3) := by decide +kernel
theorem dX7_would_9 : decode cX7_would 9 = .ok (.ifCond .eq 19, 3) := by decide +kernel
theorem dX7_would_12 : decode cX7_would 12 = .ok (.iload_n 2, 1) := by decide +kernel
theorem dX7_would_13 : decode cX7_would 13 = .ok (.iconst 0, 1) := by decide +kernel
theorem dX7_would_14 : decode cX7_would 14 = .ok (.aload_n 0, 1) := by decide +kernel
theorem dX7_would_15 : decode cX7_would 15 = .ok (.getfield 17, 3) := by decide +kernel
theorem dX7_would_18 : decode cX7_would 18 = .ok (.iload_n 1, 1) := by decide +kernel
theorem dX7_would_19 : decode cX7_would 19 = .ok (.aaload, 1) := by decide +kernel
theorem dX7_would_20 : decode cX7_would 20 = .ok (.iconst 0, 1) := by decide +kernel
theorem dX7_would_21 : decode cX7_would 21 = .ok (.iaload, 1) := by decide +kernel
theorem dX7_would_22 : decode cX7_would 22 = .ok (.invokestatic 29, 3) := by decide +kernel
theorem dX7_would_25 : decode cX7_would 25 = .ok (.ifCond .ne 9, 3) := by decide +kernel
theorem dX7_would_28 : decode cX7_would 28 = .ok (.aload_n 0, 1) := by decide +kernel
theorem dX7_would_29 : decode cX7_would 29 = .ok (.iconst 1, 1) := by decide +kernel
theorem dX7_would_30 : decode cX7_would 30 = .ok (.invokevirtual 72, 3) := by decide +kernel
theorem dX7_would_33 : decode cX7_would 33 = .ok (.ireturn, 1) := by decide +kernel
theorem dX7_would_34 : decode cX7_would 34 = .ok (.iload_n 3, 1) := by decide +kernel
theorem dX7_would_35 : decode cX7_would 35 = .ok (.iload 4, 2) := by decide +kernel
theorem dX7_would_37 : decode cX7_would 37 = .ok (.invokestatic 75, 3) := by decide +kernel
theorem dX7_would_40 : decode cX7_would 40 = .ok (.ifCond .ne 9, 3) := by decide +kernel
theorem dX7_would_43 : decode cX7_would 43 = .ok (.aload_n 0, 1) := by decide +kernel
theorem dX7_would_44 : decode cX7_would 44 = .ok (.iconst 2, 1) := by decide +kernel
theorem dX7_would_45 : decode cX7_would 45 = .ok (.invokevirtual 72, 3) := by decide +kernel
theorem dX7_would_48 : decode cX7_would 48 = .ok (.ireturn, 1) := by decide +kernel
theorem dX7_would_49 : decode cX7_would 49 = .ok (.iconst 4, 1) := by decide +kernel
theorem dX7_would_50 : decode cX7_would 50 = .ok (.newarray .int, 2) := by decide +kernel
theorem dX7_would_52 : decode cX7_would 52 = .ok (.dup, 1) := by decide +kernel
theorem dX7_would_53 : decode cX7_would 53 = .ok (.iconst 0, 1) := by decide +kernel
theorem dX7_would_54 : decode cX7_would 54 = .ok (.iconst 1, 1) := by decide +kernel
theorem dX7_would_55 : decode cX7_would 55 = .ok (.iastore, 1) := by decide +kernel
theorem dX7_would_56 : decode cX7_would 56 = .ok (.dup, 1) := by decide +kernel
theorem dX7_would_57 : decode cX7_would 57 = .ok (.iconst 1, 1) := by decide +kernel
theorem dX7_would_58 : decode cX7_would 58 = .ok (.iload_n 2, 1) := by decide +kernel
theorem dX7_would_59 : decode cX7_would 59 = .ok (.iastore, 1) := by decide +kernel
theorem dX7_would_60 : decode cX7_would 60 = .ok (.dup, 1) := by decide +kernel
theorem dX7_would_61 : decode cX7_would 61 = .ok (.iconst 2, 1) := by decide +kernel
theorem dX7_would_62 : decode cX7_would 62 = .ok (.iload 4, 2) := by decide +kernel
theorem dX7_would_64 : decode cX7_would 64 = .ok (.iastore, 1) := by decide +kernel
theorem dX7_would_65 : decode cX7_would 65 = .ok (.dup, 1) := by decide +kernel
theorem dX7_would_66 : decode cX7_would 66 = .ok (.iconst 3, 1) := by decide +kernel
theorem dX7_would_67 : decode cX7_would 67 = .ok (.iload_n 3, 1) := by decide +kernel
theorem dX7_would_68 : decode cX7_would 68 = .ok (.iastore, 1) := by decide +kernel
theorem dX7_would_69 : decode cX7_would 69 = .ok (.astore 5, 2) := by decide +kernel
theorem dX7_would_71 : decode cX7_would 71 = .ok (.iconst 0, 1) := by decide +kernel
theorem dX7_would_72 : decode cX7_would 72 = .ok (.istore 6, 2) := by decide +kernel
theorem dX7_would_74 : decode cX7_would 74 = .ok (.iload 6, 2) := by decide +kernel
theorem dX7_would_76 : decode cX7_would 76 = .ok (.aload_n 0, 1) := by decide +kernel
theorem dX7_would_77 : decode cX7_would 77 = .ok (.getfield 17, 3) := by decide +kernel
theorem dX7_would_80 : decode cX7_would 80 = .ok (.iload_n 1, 1) := by decide +kernel
theorem dX7_would_81 : decode cX7_would 81 = .ok (.aaload, 1) := by decide +kernel
theorem dX7_would_82 : decode cX7_would 82 = .ok (.iconst 1, 1) := by decide +kernel
theorem dX7_would_83 : decode cX7_would 83 = .ok (.iaload, 1) := by decide +kernel
theorem dX7_would_84 : decode cX7_would 84 = .ok (.if_icmp .ge 25, 3) := by decide +kernel
theorem dX7_would_87 : decode cX7_would 87 = .ok (.aload_n 0, 1) := by decide +kernel
theorem dX7_would_88 : decode cX7_would 88 = .ok (.aload 5, 2) := by decide +kernel
theorem dX7_would_90 : decode cX7_would 90 = .ok (.iload_n 1, 1) := by decide +kernel
theorem dX7_would_91 : decode cX7_would 91 = .ok (.aload_n 0, 1) := by decide +kernel
theorem dX7_would_92 : decode cX7_would 92 = .ok (.iload_n 1, 1) := by decide +kernel
theorem dX7_would_93 : decode cX7_would 93 = .ok (.iload 6, 2) := by decide +kernel
theorem dX7_would_95 : decode cX7_would 95 = .ok (.invokevirtual 61, 3) := by decide +kernel
theorem dX7_would_98 : decode cX7_would 98 = .ok (.invokevirtual 68, 3) := by decide +kernel
theorem dX7_would_101 : decode cX7_would 101 = .ok (.astore 5, 2) := by decide +kernel
theorem dX7_would_103 : decode cX7_would 103 = .ok (.iinc 6 1, 3) := by decide +kernel
theorem dX7_would_106 : decode cX7_would 106 = .ok (.goto (-32), 3) := by decide +kernel
theorem dX7_would_109 : decode cX7_would 109 = .ok (.aload 5, 2) := by decide +kernel
theorem dX7_would_111 : decode cX7_would 111 = .ok (.iconst 1, 1) := by decide +kernel
theorem dX7_would_112 : decode cX7_would 112 = .ok (.iaload, 1) := by decide +kernel
theorem dX7_would_113 : decode cX7_would 113 = .ok (.ireturn, 1) := by decide +kernel
theorem dX7_undoes_0 : decode cX7_undoes 0 = .ok (.aload_n 0, 1) := by decide +kernel
theorem dX7_undoes_1 : decode cX7_undoes 1 = .ok (.iconst 0, 1) := by decide +kernel
theorem dX7_undoes_2 : decode cX7_undoes 2 = .ok (.putfield 25, 3) := by decide +kernel
theorem dX7_undoes_5 : decode cX7_undoes 5 = .ok (.iload_n 1, 1) := by decide +kernel
theorem dX7_undoes_6 : decode cX7_undoes 6 = .ok (.invokestatic 33, 3) := by decide +kernel
theorem dX7_undoes_9 : decode cX7_undoes 9 = .ok (.ifCond .eq 11, 3) := by decide +kernel
theorem dX7_undoes_12 : decode cX7_undoes 12 = .ok (.aload_n 0, 1) := by decide +kernel
theorem dX7_undoes_13 : decode cX7_undoes 13 = .ok (.iload_n 1, 1) := by decide +kernel
theorem dX7_undoes_14 : decode cX7_undoes 14 = .ok (.invokevirtual 96, 3) := by decide +kernel
theorem dX7_undoes_17 : decode cX7_undoes 17 = .ok (.goto 8, 3) := by decide +kernel
theorem dX7_undoes_20 : decode cX7_undoes 20 = .ok (.aload_n 0, 1) := by decide +kernel
theorem dX7_undoes_21 : decode cX7_undoes 21 = .ok (.iconst 1, 1) := by decide +kernel
theorem dX7_undoes_22 : decode cX7_undoes 22 = .ok (.invokevirtual 72, 3) := by decide +kernel
theorem dX7_undoes_25 : decode cX7_undoes 25 = .ok (.ireturn, 1) := by decide +kernel
theorem dX7_mean_0 : decode cX7_mean 0 = .ok (.aload_n 0, 1) := by decide +kernel
theorem dX7_mean_1 : decode cX7_mean 1 = .ok (.iconst 0, 1) := by decide +kernel
theorem dX7_mean_2 : decode cX7_mean 2 = .ok (.putfield 25, 3) := by decide +kernel
theorem dX7_mean_5 : decode cX7_mean 5 = .ok (.aload_n 0, 1) := by decide +kernel
theorem dX7_mean_6 : decode cX7_mean 6 = .ok (.getfield 17, 3) := by decide +kernel
theorem dX7_mean_9 : decode cX7_mean 9 = .ok (.iconst 0, 1) := by decide +kernel
theorem dX7_mean_10 : decode cX7_mean 10 = .ok (.aaload, 1) := by decide +kernel
theorem dX7_mean_11 : decode cX7_mean 11 = .ok (.iconst 0, 1) := by decide +kernel
theorem dX7_mean_12 : decode cX7_mean 12 = .ok (.iaload, 1) := by decide +kernel
theorem dX7_mean_13 : decode cX7_mean 13 = .ok (.aload_n 0, 1) := by decide +kernel
theorem dX7_mean_14 : decode cX7_mean 14 = .ok (.getfield 17, 3) := by decide +kernel
theorem dX7_mean_17 : decode cX7_mean 17 = .ok (.iconst 1, 1) := by decide +kernel
theorem dX7_mean_18 : decode cX7_mean 18 = .ok (.aaload, 1) := by decide +kernel
theorem dX7_mean_19 : decode cX7_mean 19 = .ok (.iconst 0, 1) := by decide +kernel
theorem dX7_mean_20 : decode cX7_mean 20 = .ok (.iaload, 1) := by decide +kernel
theorem dX7_mean_21 : decode cX7_mean 21 = .ok (.iadd, 1) := by decide +kernel
theorem dX7_mean_22 : decode cX7_mean 22 = .ok (.i2d, 1) := by decide +kernel
theorem dX7_mean_23 : decode cX7_mean 23 = .ok (.ldc2_w 135, 3) := by decide +kernel
theorem dX7_mean_26 : decode cX7_mean 26 = .ok (.ddiv, 1) := by decide +kernel
theorem dX7_mean_27 : decode cX7_mean 27 = .ok (.dreturn, 1) := by decide +kernel
theorem dX7_digest_0 : decode cX7_digest 0 = .ok (.aload_n 0, 1) := by decide +kernel
theorem dX7_digest_1 : decode cX7_digest 1 = .ok (.iconst 0, 1) := by decide +kernel
theorem dX7_digest_2 : decode cX7_digest 2 = .ok (.putfield 25, 3) := by decide +kernel
theorem dX7_digest_5 : decode cX7_digest 5 = .ok (.ldc2_w 137, 3) := by decide +kernel
theorem dX7_digest_8 : decode cX7_digest 8 = .ok (.lstore_n 1, 1) := by decide +kernel
theorem dX7_digest_9 : decode cX7_digest 9 = .ok (.iconst 0, 1) := by decide +kernel
theorem dX7_digest_10 : decode cX7_digest 10 = .ok (.istore_n 3, 1) := by decide +kernel
theorem dX7_digest_11 : decode cX7_digest 11 = .ok (.iload_n 3, 1) := by decide +kernel
theorem dX7_digest_12 : decode cX7_digest 12 = .ok (.bipush 7, 2) := by decide +kernel
theorem dX7_digest_14 : decode cX7_digest 14 = .ok (.if_icmp .ge 22, 3) := by decide +kernel
theorem dX7_digest_17 : decode cX7_digest 17 = .ok (.lload_n 1, 1) := by decide +kernel
theorem dX7_digest_18 : decode cX7_digest 18 = .ok (.ldc2_w 139, 3) := by decide +kernel
theorem dX7_digest_21 : decode cX7_digest 21 = .ok (.lmul, 1) := by decide +kernel
theorem dX7_digest_22 : decode cX7_digest 22 = .ok (.aload_n 0, 1) := by decide +kernel
theorem dX7_digest_23 : decode cX7_digest 23 = .ok (.iload_n 3, 1) := by decide +kernel
theorem dX7_digest_24 : decode cX7_digest 24 = .ok (.invokevirtual 128, 3) := by decide +kernel
theorem dX7_digest_27 : decode cX7_digest 27 = .ok (.i2l, 1) := by decide +kernel
theorem dX7_digest_28 : decode cX7_digest 28 = .ok (.ladd, 1) := by decide +kernel
theorem dX7_digest_29 : decode cX7_digest 29 = .ok (.lstore_n 1, 1) := by decide +kernel
theorem dX7_digest_30 : decode cX7_digest 30 = .ok (.iinc 3 1, 3) := by decide +kernel
theorem dX7_digest_33 : decode cX7_digest 33 = .ok (.goto (-22), 3) := by decide +kernel
theorem dX7_digest_36 : decode cX7_digest 36 = .ok (.iconst 0, 1) := by decide +kernel
theorem dX7_digest_37 : decode cX7_digest 37 = .ok (.istore_n 3, 1) := by decide +kernel
theorem dX7_digest_38 : decode cX7_digest 38 = .ok (.iload_n 3, 1) := by decide +kernel
theorem dX7_digest_39 : decode cX7_digest 39 = .ok (.iconst 2, 1) := by decide +kernel
theorem dX7_digest_40 : decode cX7_digest 40 = .ok (.if_icmp .ge 167, 3) := by decide +kernel
theorem dX7_digest_43 : decode cX7_digest 43 = .ok (.iconst 0, 1) := by decide +kernel
theorem dX7_digest_44 : decode cX7_digest 44 = .ok (.istore 4, 2) := by decide +kernel
theorem dX7_digest_46 : decode cX7_digest 46 = .ok (.iload 4, 2) := by decide +kernel
theorem dX7_digest_48 : decode cX7_digest 48 = .ok (.bipush 7, 2) := by decide +kernel
theorem dX7_digest_50 : decode cX7_digest 50 = .ok (.if_icmp .ge 24, 3) := by decide +kernel
theorem dX7_digest_53 : decode cX7_digest 53 = .ok (.lload_n 1, 1) := by decide +kernel
theorem dX7_digest_54 : decode cX7_digest 54 = .ok (.ldc2_w 139, 3) := by decide +kernel
theorem dX7_digest_57 : decode cX7_digest 57 = .ok (.lmul, 1) := by decide +kernel
theorem dX7_digest_58 : decode cX7_digest 58 = .ok (.aload_n 0, 1) := by decide +kernel
theorem dX7_digest_59 : decode cX7_digest 59 = .ok (.iload_n 3, 1) := by decide +kernel
theorem dX7_digest_60 : decode cX7_digest 60 = .ok (.iload 4, 2) := by decide +kernel
theorem dX7_digest_62 : decode cX7_digest 62 = .ok (.invokevirtual 105, 3) := by decide +kernel
theorem dX7_digest_65 : decode cX7_digest 65 = .ok (.i2l, 1) := by decide +kernel
theorem dX7_digest_66 : decode cX7_digest 66 = .ok (.ladd, 1) := by decide +kernel
theorem dX7_digest_67 : decode cX7_digest 67 = .ok (.lstore_n 1, 1) := by decide +kernel
theorem dX7_digest_68 : decode cX7_digest 68 = .ok (.iinc 4 1, 3) := by decide +kernel
theorem dX7_digest_71 : decode cX7_digest 71 = .ok (.goto (-25), 3) := by decide +kernel
theorem dX7_digest_74 : decode cX7_digest 74 = .ok (.iconst 0, 1) := by decide +kernel
theorem dX7_digest_75 : decode cX7_digest 75 = .ok (.istore 4, 2) := by decide +kernel
theorem dX7_digest_77 : decode cX7_digest 77 = .ok (.iload 4, 2) := by decide +kernel
theorem dX7_digest_79 : decode cX7_digest 79 = .ok (.aload_n 0, 1) := by decide +kernel
theorem dX7_digest_80 : decode cX7_digest 80 = .ok (.getfield 17, 3) := by decide +kernel
theorem dX7_digest_83 : decode cX7_digest 83 = .ok (.iload_n 3, 1) := by decide +kernel
theorem dX7_digest_84 : decode cX7_digest 84 = .ok (.aaload, 1) := by decide +kernel
theorem dX7_digest_85 : decode cX7_digest 85 = .ok (.iconst 0, 1) := by decide +kernel
theorem dX7_digest_86 : decode cX7_digest 86 = .ok (.iaload, 1) := by decide +kernel
theorem dX7_digest_87 : decode cX7_digest 87 = .ok (.if_icmp .ge 47, 3) := by decide +kernel
theorem dX7_digest_90 : decode cX7_digest 90 = .ok (.lload_n 1, 1) := by decide +kernel
theorem dX7_digest_91 : decode cX7_digest 91 = .ok (.ldc2_w 139, 3) := by decide +kernel
theorem dX7_digest_94 : decode cX7_digest 94 = .ok (.lmul, 1) := by decide +kernel
theorem dX7_digest_95 : decode cX7_digest 95 = .ok (.aload_n 0, 1) := by decide +kernel
theorem dX7_digest_96 : decode cX7_digest 96 = .ok (.getfield 11, 3) := by decide +kernel
theorem dX7_digest_99 : decode cX7_digest 99 = .ok (.iload_n 3, 1) := by decide +kernel
theorem dX7_digest_100 : decode cX7_digest 100 = .ok (.aaload, 1) := by decide +kernel
theorem dX7_digest_101 : decode cX7_digest 101 = .ok (.iload 4, 2) := by decide +kernel
theorem dX7_digest_103 : decode cX7_digest 103 = .ok (.iaload, 1) := by decide +kernel
theorem dX7_digest_104 : decode cX7_digest 104 = .ok (.invokestatic 43, 3) := by decide +kernel
theorem dX7_digest_107 : decode cX7_digest 107 = .ok (.i2l, 1) := by decide +kernel
theorem dX7_digest_108 : decode cX7_digest 108 = .ok (.ladd, 1) := by decide +kernel
theorem dX7_digest_109 : decode cX7_digest 109 = .ok (.ldc2_w 139, 3) := by decide +kernel
theorem dX7_digest_112 : decode cX7_digest 112 = .ok (.lmul, 1) := by decide +kernel
theorem dX7_digest_113 : decode cX7_digest 113 = .ok (.aload_n 0, 1) := by decide +kernel
theorem dX7_digest_114 : decode cX7_digest 114 = .ok (.getfield 11, 3) := by decide +kernel
theorem dX7_digest_117 : decode cX7_digest 117 = .ok (.iload_n 3, 1) := by decide +kernel
theorem dX7_digest_118 : decode cX7_digest 118 = .ok (.aaload, 1) := by decide +kernel
theorem dX7_digest_119 : decode cX7_digest 119 = .ok (.iload 4, 2) := by decide +kernel
theorem dX7_digest_121 : decode cX7_digest 121 = .ok (.iaload, 1) := by decide +kernel
theorem dX7_digest_122 : decode cX7_digest 122 = .ok (.invokestatic 102, 3) := by decide +kernel
theorem dX7_digest_125 : decode cX7_digest 125 = .ok (.i2l, 1) := by decide +kernel
theorem dX7_digest_126 : decode cX7_digest 126 = .ok (.ladd, 1) := by decide +kernel
theorem dX7_digest_127 : decode cX7_digest 127 = .ok (.lstore_n 1, 1) := by decide +kernel
theorem dX7_digest_128 : decode cX7_digest 128 = .ok (.iinc 4 1, 3) := by decide +kernel
theorem dX7_digest_131 : decode cX7_digest 131 = .ok (.goto (-54), 3) := by decide +kernel
theorem dX7_digest_134 : decode cX7_digest 134 = .ok (.iconst 0, 1) := by decide +kernel
theorem dX7_digest_135 : decode cX7_digest 135 = .ok (.istore 4, 2) := by decide +kernel
theorem dX7_digest_137 : decode cX7_digest 137 = .ok (.iload 4, 2) := by decide +kernel
theorem dX7_digest_139 : decode cX7_digest 139 = .ok (.aload_n 0, 1) := by decide +kernel
theorem dX7_digest_140 : decode cX7_digest 140 = .ok (.getfield 17, 3) := by decide +kernel
theorem dX7_digest_143 : decode cX7_digest 143 = .ok (.iload_n 3, 1) := by decide +kernel
theorem dX7_digest_144 : decode cX7_digest 144 = .ok (.aaload, 1) := by decide +kernel
theorem dX7_digest_145 : decode cX7_digest 145 = .ok (.iconst 1, 1) := by decide +kernel
theorem dX7_digest_146 : decode cX7_digest 146 = .ok (.iaload, 1) := by decide +kernel
theorem dX7_digest_147 : decode cX7_digest 147 = .ok (.if_icmp .ge 41, 3) := by decide +kernel
theorem dX7_digest_150 : decode cX7_digest 150 = .ok (.iconst 0, 1) := by decide +kernel
theorem dX7_digest_151 : decode cX7_digest 151 = .ok (.istore 5, 2) := by decide +kernel
theorem dX7_digest_153 : decode cX7_digest 153 = .ok (.iload 5, 2) := by decide +kernel
theorem dX7_digest_155 : decode cX7_digest 155 = .ok (.iconst 4, 1) := by decide +kernel
theorem dX7_digest_156 : decode cX7_digest 156 = .ok (.if_icmp .ge 26, 3) := by decide +kernel
theorem dX7_digest_159 : decode cX7_digest 159 = .ok (.lload_n 1, 1) := by decide +kernel
theorem dX7_digest_160 : decode cX7_digest 160 = .ok (.ldc2_w 139, 3) := by decide +kernel
theorem dX7_digest_163 : decode cX7_digest 163 = .ok (.lmul, 1) := by decide +kernel
theorem dX7_digest_164 : decode cX7_digest 164 = .ok (.aload_n 0, 1) := by decide +kernel
theorem dX7_digest_165 : decode cX7_digest 165 = .ok (.iload_n 3, 1) := by decide +kernel
theorem dX7_digest_166 : decode cX7_digest 166 = .ok (.iload 4, 2) := by decide +kernel
theorem dX7_digest_168 : decode cX7_digest 168 = .ok (.iload 5, 2) := by decide +kernel
theorem dX7_digest_170 : decode cX7_digest 170 = .ok (.invokevirtual 108, 3) := by decide +kernel
theorem dX7_digest_173 : decode cX7_digest 173 = .ok (.i2l, 1) := by decide +kernel
theorem dX7_digest_174 : decode cX7_digest 174 = .ok (.ladd, 1) := by decide +kernel
theorem dX7_digest_175 : decode cX7_digest 175 = .ok (.lstore_n 1, 1) := by decide +kernel
theorem dX7_digest_176 : decode cX7_digest 176 = .ok (.iinc 5 1, 3) := by decide +kernel
theorem dX7_digest_179 : decode cX7_digest 179 = .ok (.goto (-26), 3) := by decide +kernel
theorem dX7_digest_182 : decode cX7_digest 182 = .ok (.iinc 4 1, 3) := by decide +kernel
theorem dX7_digest_185 : decode cX7_digest 185 = .ok (.goto (-48), 3) := by decide +kernel
theorem dX7_digest_188 : decode cX7_digest 188 = .ok (.lload_n 1, 1) := by decide +kernel
theorem dX7_digest_189 : decode cX7_digest 189 = .ok (.ldc2_w 139, 3) := by decide +kernel
theorem dX7_digest_192 : decode cX7_digest 192 = .ok (.lmul, 1) := by decide +kernel
theorem dX7_digest_193 : decode cX7_digest 193 = .ok (.aload_n 0, 1) := by decide +kernel
theorem dX7_digest_194 : decode cX7_digest 194 = .ok (.iload_n 3, 1) := by decide +kernel
theorem dX7_digest_195 : decode cX7_digest 195 = .ok (.invokevirtual 96, 3) := by decide +kernel
theorem dX7_digest_198 : decode cX7_digest 198 = .ok (.i2l, 1) := by decide +kernel
theorem dX7_digest_199 : decode cX7_digest 199 = .ok (.ladd, 1) := by decide +kernel
theorem dX7_digest_200 : decode cX7_digest 200 = .ok (.lstore_n 1, 1) := by decide +kernel
theorem dX7_digest_201 : decode cX7_digest 201 = .ok (.iinc 3 1, 3) := by decide +kernel
theorem dX7_digest_204 : decode cX7_digest 204 = .ok (.goto (-166), 3) := by decide +kernel
theorem dX7_digest_207 : decode cX7_digest 207 = .ok (.aload_n 0, 1) := by decide +kernel
theorem dX7_digest_208 : decode cX7_digest 208 = .ok (.iconst 0, 1) := by decide +kernel
theorem dX7_digest_209 : decode cX7_digest 209 = .ok (.invokevirtual 117, 3) := by decide +kernel
theorem dX7_digest_212 : decode cX7_digest 212 = .ok (.astore_n 3, 1) := by decide +kernel
theorem dX7_digest_213 : decode cX7_digest 213 = .ok (.iconst 0, 1) := by decide +kernel
theorem dX7_digest_214 : decode cX7_digest 214 = .ok (.istore 4, 2) := by decide +kernel
theorem dX7_digest_216 : decode cX7_digest 216 = .ok (.iload 4, 2) := by decide +kernel
theorem dX7_digest_218 : decode cX7_digest 218 = .ok (.aload_n 3, 1) := by decide +kernel
theorem dX7_digest_219 : decode cX7_digest 219 = .ok (.sipush 128, 3) := by decide +kernel
theorem dX7_digest_222 : decode cX7_digest 222 = .ok (.iaload, 1) := by decide +kernel
theorem dX7_digest_223 : decode cX7_digest 223 = .ok (.if_icmp .ge 24, 3) := by decide +kernel
theorem dX7_digest_226 : decode cX7_digest 226 = .ok (.lload_n 1, 1) := by decide +kernel
theorem dX7_digest_227 : decode cX7_digest 227 = .ok (.ldc2_w 139, 3) := by decide +kernel
theorem dX7_digest_230 : decode cX7_digest 230 = .ok (.lmul, 1) := by decide +kernel
theorem dX7_digest_231 : decode cX7_digest 231 = .ok (.aload_n 3, 1) := by decide +kernel
theorem dX7_digest_232 : decode cX7_digest 232 = .ok (.iload 4, 2) := by decide +kernel
theorem dX7_digest_234 : decode cX7_digest 234 = .ok (.iaload, 1) := by decide +kernel
theorem dX7_digest_235 : decode cX7_digest 235 = .ok (.invokestatic 43, 3) := by decide +kernel
theorem dX7_digest_238 : decode cX7_digest 238 = .ok (.i2l, 1) := by decide +kernel
theorem dX7_digest_239 : decode cX7_digest 239 = .ok (.ladd, 1) := by decide +kernel
theorem dX7_digest_240 : decode cX7_digest 240 = .ok (.lstore_n 1, 1) := by decide +kernel
theorem dX7_digest_241 : decode cX7_digest 241 = .ok (.iinc 4 1, 3) := by decide +kernel
theorem dX7_digest_244 : decode cX7_digest 244 = .ok (.goto (-28), 3) := by decide +kernel
theorem dX7_digest_247 : decode cX7_digest 247 = .ok (.lload_n 1, 1) := by decide +kernel
theorem dX7_digest_248 : decode cX7_digest 248 = .ok (.lreturn, 1) := by decide +kernel
