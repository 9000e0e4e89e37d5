theorem dX2_insert_0 : decode cX2_insert 0 = .ok (.iload_n 1, 1) := by decide +kernel
theorem dX2_insert_1 : decode cX2_insert 1 = .ok (.ifCond .lt 23, 3) := by decide +kernel
theorem dX2_insert_4 : decode cX2_insert 4 = .ok (.iload_n 1, 1) := by decide +kernel
theorem dX2_insert_5 : decode cX2_insert 5 = .ok (.aload_n 0, 1) := by decide +kernel
theorem dX2_insert_6 : decode cX2_insert 6 = .ok (.getfield 13, 3) := by decide +kernel
theorem dX2_insert_9 : decode cX2_insert 9 = .ok (.if_icmp .gt 15, 3) := by decide +kernel
theorem dX2_insert_12 : decode cX2_insert 12 = .ok (.aload_n 0, 1) := by decide +kernel
theorem dX2_insert_13 : decode cX2_insert 13 = .ok (.getfield 13, 3) := by decide +kernel
theorem dX2_insert_16 : decode cX2_insert 16 = .ok (.aload_n 0, 1) := by decide +kernel
theorem dX2_insert_17 : decode cX2_insert 17 = .ok (.getfield 7, 3) := by decide +kernel
theorem dX2_insert_20 : decode cX2_insert 20 = .ok (.arraylength, 1) := by decide +kernel
theorem dX2_insert_21 : decode cX2_insert 21 = .ok (.if_icmp .lt 4, 3) := by decide +kernel
theorem dX2_insert_24 : decode cX2_insert 24 = .ok (.return_, 1) := by decide +kernel
theorem dX2_insert_25 : decode cX2_insert 25 = .ok (.aload_n 0, 1) := by decide +kernel
theorem dX2_insert_26 : decode cX2_insert 26 = .ok (.getfield 13, 3) := by decide +kernel
theorem dX2_insert_29 : decode cX2_insert 29 = .ok (.istore_n 3, 1) := by decide +kernel
theorem dX2_insert_30 : decode cX2_insert 30 = .ok (.iload_n 3, 1) := by decide +kernel
theorem dX2_insert_31 : decode cX2_insert 31 = .ok (.iload_n 1, 1) := by decide +kernel
theorem dX2_insert_32 : decode cX2_insert 32 = .ok (.if_icmp .le 23, 3) := by decide +kernel
theorem dX2_insert_35 : decode cX2_insert 35 = .ok (.aload_n 0, 1) := by decide +kernel
theorem dX2_insert_36 : decode cX2_insert 36 = .ok (.getfield 7, 3) := by decide +kernel
theorem dX2_insert_39 : decode cX2_insert 39 = .ok (.iload_n 3, 1) := by decide +kernel
theorem dX2_insert_40 : decode cX2_insert 40 = .ok (.aload_n 0, 1) := by decide +kernel
theorem dX2_insert_41 : decode cX2_insert 41 = .ok (.getfield 7, 3) := by decide +kernel
theorem dX2_insert_44 : decode cX2_insert 44 = .ok (.iload_n 3, 1) := by decide +kernel
theorem dX2_insert_45 : decode cX2_insert 45 = .ok (.iconst 1, 1) := by decide +kernel
theorem dX2_insert_46 : decode cX2_insert 46 = .ok (.isub, 1) := by decide +kernel
theorem dX2_insert_47 : decode cX2_insert 47 = .ok (.iaload, 1) := by decide +kernel
theorem dX2_insert_48 : decode cX2_insert 48 = .ok (.iastore, 1) := by decide +kernel
theorem dX2_insert_49 : decode cX2_insert 49 = .ok (.iinc 3 (-1), 3) := by decide +kernel
theorem dX2_insert_52 : decode cX2_insert 52 = .ok (.goto (-22), 3) := by decide +kernel
theorem dX2_insert_55 : decode cX2_insert 55 = .ok (.aload_n 0, 1) := by decide +kernel
theorem dX2_insert_56 : decode cX2_insert 56 = .ok (.getfield 7, 3) := by decide +kernel
theorem dX2_insert_59 : decode cX2_insert 59 = .ok (.iload_n 1, 1) := by decide +kernel
theorem dX2_insert_60 : decode cX2_insert 60 = .ok (.iload_n 2, 1) := by decide +kernel
theorem dX2_insert_61 : decode cX2_insert 61 = .ok (.iastore, 1) := by decide +kernel
theorem dX2_insert_62 : decode cX2_insert 62 = .ok (.aload_n 0, 1) := by decide +kernel
theorem dX2_insert_63 : decode cX2_insert 63 = .ok (.dup, 1) := by decide +kernel
theorem dX2_insert_64 : decode cX2_insert 64 = .ok (.getfield 13, 3) := by decide +kernel
theorem dX2_insert_67 : decode cX2_insert 67 = .ok (.iconst 1, 1) := by decide +kernel
theorem dX2_insert_68 : decode cX2_insert 68 = .ok (.iadd, 1) := by decide +kernel
theorem dX2_insert_69 : decode cX2_insert 69 = .ok (.putfield 13, 3) := by decide +kernel
theorem dX2_insert_72 : decode cX2_insert 72 = .ok (.return_, 1) := by decide +kernel
theorem dX2_append_0 : decode cX2_append 0 = .ok (.aload_n 0, 1) := by decide +kernel
theorem dX2_append_1 : decode cX2_append 1 = .ok (.aload_n 0, 1) := by decide +kernel
theorem dX2_append_2 : decode cX2_append 2 = .ok (.getfield 13, 3) := by decide +kernel
theorem dX2_append_5 : decode cX2_append 5 = .ok (.iload_n 1, 1) := by decide +kernel
theorem dX2_append_6 : decode cX2_append 6 = .ok (.invokevirtual 21, 3) := by decide +kernel
theorem dX2_append_9 : decode cX2_append 9 = .ok (.return_, 1) := by decide +kernel
theorem dX2_remove_0 : decode cX2_remove 0 = .ok (.aload_n 0, 1) := by decide +kernel
theorem dX2_remove_1 : decode cX2_remove 1 = .ok (.iload_n 1, 1) := by decide +kernel
theorem dX2_remove_2 : decode cX2_remove 2 = .ok (.invokevirtual 17, 3) := by decide +kernel
theorem dX2_remove_5 : decode cX2_remove 5 = .ok (.ifCond .ne 4, 3) := by decide +kernel
theorem dX2_remove_8 : decode cX2_remove 8 = .ok (.return_, 1) := by decide +kernel
theorem dX2_remove_9 : decode cX2_remove 9 = .ok (.iload_n 1, 1) := by decide +kernel
theorem dX2_remove_10 : decode cX2_remove 10 = .ok (.iconst 1, 1) := by decide +kernel
theorem dX2_remove_11 : decode cX2_remove 11 = .ok (.iadd, 1) := by decide +kernel
theorem dX2_remove_12 : decode cX2_remove 12 = .ok (.istore_n 2, 1) := by decide +kernel
theorem dX2_remove_13 : decode cX2_remove 13 = .ok (.iload_n 2, 1) := by decide +kernel
theorem dX2_remove_14 : decode cX2_remove 14 = .ok (.aload_n 0, 1) := by decide +kernel
theorem dX2_remove_15 : decode cX2_remove 15 = .ok (.getfield 13, 3) := by decide +kernel
theorem dX2_remove_18 : decode cX2_remove 18 = .ok (.if_icmp .ge 32, 3) := by decide +kernel
theorem dX2_remove_21 : decode cX2_remove 21 = .ok (.iload_n 2, 1) := by decide +kernel
theorem dX2_remove_22 : decode cX2_remove 22 = .ok (.aload_n 0, 1) := by decide +kernel
theorem dX2_remove_23 : decode cX2_remove 23 = .ok (.getfield 7, 3) := by decide +kernel
theorem dX2_remove_26 : decode cX2_remove 26 = .ok (.arraylength, 1) := by decide +kernel
theorem dX2_remove_27 : decode cX2_remove 27 = .ok (.if_icmp .ge 23, 3) := by decide +kernel
theorem dX2_remove_30 : decode cX2_remove 30 = .ok (.aload_n 0, 1) := by decide +kernel
theorem dX2_remove_31 : decode cX2_remove 31 = .ok (.getfield 7, 3) := by decide +kernel
theorem dX2_remove_34 : decode cX2_remove 34 = .ok (.iload_n 2, 1) := by decide +kernel
theorem dX2_remove_35 : decode cX2_remove 35 = .ok (.iconst 1, 1) := by decide +kernel
theorem dX2_remove_36 : decode cX2_remove 36 = .ok (.isub, 1) := by decide +kernel
theorem dX2_remove_37 : decode cX2_remove 37 = .ok (.aload_n 0, 1) := by decide +kernel
theorem dX2_remove_38 : decode cX2_remove 38 = .ok (.getfield 7, 3) := by decide +kernel
theorem dX2_remove_41 : decode cX2_remove 41 = .ok (.iload_n 2, 1) := by decide +kernel
theorem dX2_remove_42 : decode cX2_remove 42 = .ok (.iaload, 1) := by decide +kernel
theorem dX2_remove_43 : decode cX2_remove 43 = .ok (.iastore, 1) := by decide +kernel
theorem dX2_remove_44 : decode cX2_remove 44 = .ok (.iinc 2 1, 3) := by decide +kernel
theorem dX2_remove_47 : decode cX2_remove 47 = .ok (.goto (-34), 3) := by decide +kernel
theorem dX2_remove_50 : decode cX2_remove 50 = .ok (.aload_n 0, 1) := by decide +kernel
theorem dX2_remove_51 : decode cX2_remove 51 = .ok (.dup, 1) := by decide +kernel
theorem dX2_remove_52 : decode cX2_remove 52 = .ok (.getfield 13, 3) := by decide +kernel
theorem dX2_remove_55 : decode cX2_remove 55 = .ok (.iconst 1, 1) := by decide +kernel
theorem dX2_remove_56 : decode cX2_remove 56 = .ok (.isub, 1) := by decide +kernel
theorem dX2_remove_57 : decode cX2_remove 57 = .ok (.putfield 13, 3) := by decide +kernel
theorem dX2_remove_60 : decode cX2_remove 60 = .ok (.return_, 1) := by decide +kernel
theorem dX3_init_0 : decode cX3_init 0 = .ok (.aload_n 0, 1) := by decide +kernel
theorem dX3_init_1 : decode cX3_init 1 = .ok (.invokespecial 3, 3) := by decide +kernel
theorem dX3_init_4 : decode cX3_init 4 = .ok (.aload_n 0, 1) := by decide +kernel
theorem dX3_init_5 : decode cX3_init 5 = .ok (.new 9, 3) := by decide +kernel
theorem dX3_init_8 : decode cX3_init 8 = .ok (.dup, 1) := by decide +kernel
theorem dX3_init_9 : decode cX3_init 9 = .ok (.invokespecial 11, 3) := by decide +kernel
theorem dX3_init_12 : decode cX3_init 12 = .ok (.putfield 12, 3) := by decide +kernel
theorem dX3_init_15 : decode cX3_init 15 = .ok (.aload_n 0, 1) := by decide +kernel
theorem dX3_init_16 : decode cX3_init 16 = .ok (.new 18, 3) := by decide +kernel
theorem dX3_init_19 : decode cX3_init 19 = .ok (.dup, 1) := by decide +kernel
theorem dX3_init_20 : decode cX3_init 20 = .ok (.invokespecial 20, 3) := by decide +kernel
theorem dX3_init_23 : decode cX3_init 23 = .ok (.putfield 21, 3) := by decide +kernel
theorem dX3_init_26 : decode cX3_init 26 = .ok (.aload_n 0, 1) := by decide +kernel
theorem dX3_init_27 : decode cX3_init 27 = .ok (.new 25, 3) := by decide +kernel
theorem dX3_init_30 : decode cX3_init 30 = .ok (.dup, 1) := by decide +kernel
theorem dX3_init_31 : decode cX3_init 31 = .ok (.invokespecial 27, 3) := by decide +kernel
theorem dX3_init_34 : decode cX3_init 34 = .ok (.putfield 28, 3) := by decide +kernel
theorem dX3_init_37 : decode cX3_init 37 = .ok (.return_, 1) := by decide +kernel
theorem dX3_doStroke_0 : decode cX3_doStroke 0 = .ok (.aload_n 1, 1) := by decide +kernel
theorem dX3_doStroke_1 : decode cX3_doStroke 1 = .ok (.getfield 32, 3) := by decide +kernel
theorem dX3_doStroke_4 : decode cX3_doStroke 4 = .ok (.iconst 1, 1) := by decide +kernel
theorem dX3_doStroke_5 : decode cX3_doStroke 5 = .ok (.if_icmp .ne 38, 3) := by decide +kernel
theorem dX3_doStroke_8 : decode cX3_doStroke 8 = .ok (.aload_n 0, 1) := by decide +kernel
theorem dX3_doStroke_9 : decode cX3_doStroke 9 = .ok (.getfield 12, 3) := by decide +kernel
theorem dX3_doStroke_12 : decode cX3_doStroke 12 = .ok (.aload_n 1, 1) := by decide +kernel
theorem dX3_doStroke_13 : decode cX3_doStroke 13 = .ok (.getfield 38, 3) := by decide +kernel
theorem dX3_doStroke_16 : decode cX3_doStroke 16 = .ok (.aload_n 1, 1) := by decide +kernel
theorem dX3_doStroke_17 : decode cX3_doStroke 17 = .ok (.getfield 41, 3) := by decide +kernel
theorem dX3_doStroke_20 : decode cX3_doStroke 20 = .ok (.iload_n 2, 1) := by decide +kernel
theorem dX3_doStroke_21 : decode cX3_doStroke 21 = .ok (.aload_n 1, 1) := by decide +kernel
theorem dX3_doStroke_22 : decode cX3_doStroke 22 = .ok (.getfield 44, 3) := by decide +kernel
theorem dX3_doStroke_25 : decode cX3_doStroke 25 = .ok (.invokevirtual 47, 3) := by decide +kernel
theorem dX3_doStroke_28 : decode cX3_doStroke 28 = .ok (.aload_n 0, 1) := by decide +kernel
theorem dX3_doStroke_29 : decode cX3_doStroke 29 = .ok (.getfield 28, 3) := by decide +kernel
theorem dX3_doStroke_32 : decode cX3_doStroke 32 = .ok (.aload_n 1, 1) := by decide +kernel
theorem dX3_doStroke_33 : decode cX3_doStroke 33 = .ok (.getfield 38, 3) := by decide +kernel
theorem dX3_doStroke_36 : decode cX3_doStroke 36 = .ok (.iconst 1, 1) := by decide +kernel
theorem dX3_doStroke_37 : decode cX3_doStroke 37 = .ok (.invokevirtual 51, 3) := by decide +kernel
theorem dX3_doStroke_40 : decode cX3_doStroke 40 = .ok (.goto 34, 3) := by decide +kernel
theorem dX3_doStroke_43 : decode cX3_doStroke 43 = .ok (.aload_n 1, 1) := by decide +kernel
theorem dX3_doStroke_44 : decode cX3_doStroke 44 = .ok (.getfield 32, 3) := by decide +kernel
theorem dX3_doStroke_47 : decode cX3_doStroke 47 = .ok (.iconst 2, 1) := by decide +kernel
theorem dX3_doStroke_48 : decode cX3_doStroke 48 = .ok (.if_icmp .ne 26, 3) := by decide +kernel
theorem dX3_doStroke_51 : decode cX3_doStroke 51 = .ok (.aload_n 0, 1) := by decide +kernel
theorem dX3_doStroke_52 : decode cX3_doStroke 52 = .ok (.getfield 12, 3) := by decide +kernel
theorem dX3_doStroke_55 : decode cX3_doStroke 55 = .ok (.aload_n 1, 1) := by decide +kernel
theorem dX3_doStroke_56 : decode cX3_doStroke 56 = .ok (.getfield 38, 3) := by decide +kernel
theorem dX3_doStroke_59 : decode cX3_doStroke 59 = .ok (.invokevirtual 55, 3) := by decide +kernel
theorem dX3_doStroke_62 : decode cX3_doStroke 62 = .ok (.aload_n 0, 1) := by decide +kernel
theorem dX3_doStroke_63 : decode cX3_doStroke 63 = .ok (.getfield 28, 3) := by decide +kernel
theorem dX3_doStroke_66 : decode cX3_doStroke 66 = .ok (.aload_n 1, 1) := by decide +kernel
theorem dX3_doStroke_67 : decode cX3_doStroke 67 = .ok (.getfield 38, 3) := by decide +kernel
theorem dX3_doStroke_70 : decode cX3_doStroke 70 = .ok (.iconst (-1), 1) := by decide +kernel
theorem dX3_doStroke_71 : decode cX3_doStroke 71 = .ok (.invokevirtual 51, 3) := by decide +kernel
theorem dX3_doStroke_74 : decode cX3_doStroke 74 = .ok (.return_, 1) := by decide +kernel
theorem dX4_init_0 : decode cX4_init 0 = .ok (.aload_n 0, 1) := by decide +kernel
theorem dX4_init_1 : decode cX4_init 1 = .ok (.invokespecial 3, 3) := by decide +kernel
theorem dX4_init_4 : decode cX4_init 4 = .ok (.aload_n 0, 1) := by decide +kernel
theorem dX4_init_5 : decode cX4_init 5 = .ok (.iload_n 1, 1) := by decide +kernel
theorem dX4_init_6 : decode cX4_init 6 = .ok (.putfield 9, 3) := by decide +kernel
theorem dX4_init_9 : decode cX4_init 9 = .ok (.aload_n 0, 1) := by decide +kernel
theorem dX4_init_10 : decode cX4_init 10 = .ok (.iload_n 2, 1) := by decide +kernel
theorem dX4_init_11 : decode cX4_init 11 = .ok (.putfield 15, 3) := by decide +kernel
theorem dX4_init_14 : decode cX4_init 14 = .ok (.aload_n 0, 1) := by decide +kernel
theorem dX4_init_15 : decode cX4_init 15 = .ok (.iload_n 3, 1) := by decide +kernel
theorem dX4_init_16 : decode cX4_init 16 = .ok (.putfield 18, 3) := by decide +kernel
theorem dX4_init_19 : decode cX4_init 19 = .ok (.aload_n 0, 1) := by decide +kernel
theorem dX4_init_20 : decode cX4_init 20 = .ok (.iload 4, 2) := by decide +kernel
theorem dX4_init_22 : decode cX4_init 22 = .ok (.putfield 21, 3) := by decide +kernel
theorem dX4_init_25 : decode cX4_init 25 = .ok (.aload_n 0, 1) := by decide +kernel
theorem dX4_init_26 : decode cX4_init 26 = .ok (.iload 5, 2) := by decide +kernel
theorem dX4_init_28 : decode cX4_init 28 = .ok (.putfield 24, 3) := by decide +kernel
theorem dX4_init_31 : decode cX4_init 31 = .ok (.return_, 1) := by decide +kernel
theorem dX4_moveBy_0 : decode cX4_moveBy 0 = .ok (.aload_n 0, 1) := by decide +kernel
theorem dX4_moveBy_1 : decode cX4_moveBy 1 = .ok (.getfield 9, 3) := by decide +kernel
theorem dX4_moveBy_4 : decode cX4_moveBy 4 = .ok (.ifCond .ne 4, 3) := by decide +kernel
theorem dX4_moveBy_7 : decode cX4_moveBy 7 = .ok (.return_, 1) := by decide +kernel
theorem dX4_moveBy_8 : decode cX4_moveBy 8 = .ok (.iload_n 1, 1) := by decide +kernel
theorem dX4_moveBy_9 : decode cX4_moveBy 9 = .ok (.iconst 1, 1) := by decide +kernel
theorem dX4_moveBy_10 : decode cX4_moveBy 10 = .ok (.if_icmp .ne 12, 3) := by decide +kernel
theorem dX4_moveBy_13 : decode cX4_moveBy 13 = .ok (.aload_n 0, 1) := by decide +kernel
theorem dX4_moveBy_14 : decode cX4_moveBy 14 = .ok (.iload_n 2, 1) := by decide +kernel
theorem dX4_moveBy_15 : decode cX4_moveBy 15 = .ok (.iload_n 3, 1) := by decide +kernel
theorem dX4_moveBy_16 : decode cX4_moveBy 16 = .ok (.invokevirtual 27, 3) := by decide +kernel
theorem dX4_moveBy_19 : decode cX4_moveBy 19 = .ok (.goto 13, 3) := by decide +kernel
theorem dX4_moveBy_22 : decode cX4_moveBy 22 = .ok (.iload_n 1, 1) := by decide +kernel
theorem dX4_moveBy_23 : decode cX4_moveBy 23 = .ok (.iconst 2, 1) := by decide +kernel
theorem dX4_moveBy_24 : decode cX4_moveBy 24 = .ok (.if_icmp .ne 8, 3) := by decide +kernel
theorem dX4_moveBy_27 : decode cX4_moveBy 27 = .ok (.aload_n 0, 1) := by decide +kernel
theorem dX4_moveBy_28 : decode cX4_moveBy 28 = .ok (.iload_n 2, 1) := by decide +kernel
theorem dX4_moveBy_29 : decode cX4_moveBy 29 = .ok (.invokevirtual 31, 3) := by decide +kernel
theorem dX4_moveBy_32 : decode cX4_moveBy 32 = .ok (.return_, 1) := by decide +kernel
theorem dX4_moveBySet_0 : decode cX4_moveBySet 0 = .ok (.aload_n 0, 1) := by decide +kernel
theorem dX4_moveBySet_1 : decode cX4_moveBySet 1 = .ok (.getfield 15, 3) := by decide +kernel
theorem dX4_moveBySet_4 : decode cX4_moveBySet 4 = .ok (.iload_n 1, 1) := by decide +kernel
theorem dX4_moveBySet_5 : decode cX4_moveBySet 5 = .ok (.if_icmp .lt 23, 3) := by decide +kernel
theorem dX4_moveBySet_8 : decode cX4_moveBySet 8 = .ok (.aload_n 0, 1) := by decide +kernel
theorem dX4_moveBySet_9 : decode cX4_moveBySet 9 = .ok (.getfield 9, 3) := by decide +kernel
theorem dX4_moveBySet_12 : decode cX4_moveBySet 12 = .ok (.iconst 1, 1) := by decide +kernel
theorem dX4_moveBySet_13 : decode cX4_moveBySet 13 = .ok (.if_icmp .ne 19, 3) := by decide +kernel
theorem dX4_moveBySet_16 : decode cX4_moveBySet 16 = .ok (.aload_n 0, 1) := by decide +kernel
theorem dX4_moveBySet_17 : decode cX4_moveBySet 17 = .ok (.getfield 15, 3) := by decide +kernel
theorem dX4_moveBySet_20 : decode cX4_moveBySet 20 = .ok (.iload_n 1, 1) := by decide +kernel
theorem dX4_moveBySet_21 : decode cX4_moveBySet 21 = .ok (.if_icmp .ne 11, 3) := by decide +kernel
theorem dX4_moveBySet_24 : decode cX4_moveBySet 24 = .ok (.iload_n 2, 1) := by decide +kernel
theorem dX4_moveBySet_25 : decode cX4_moveBySet 25 = .ok (.ifCond .eq 7, 3) := by decide +kernel
theorem dX4_moveBySet_28 : decode cX4_moveBySet 28 = .ok (.iconst 1, 1) := by decide +kernel
theorem dX4_moveBySet_29 : decode cX4_moveBySet 29 = .ok (.goto 4, 3) := by decide +kernel
theorem dX4_moveBySet_32 : decode cX4_moveBySet 32 = .ok (.iconst 0, 1) := by decide +kernel
theorem dX4_moveBySet_33 : decode cX4_moveBySet 33 = .ok (.istore_n 3, 1) := by decide +kernel
theorem dX4_moveBySet_34 : decode cX4_moveBySet 34 = .ok (.iload_n 3, 1) := by decide +kernel
theorem dX4_moveBySet_35 : decode cX4_moveBySet 35 = .ok (.ifCond .ne 13, 3) := by decide +kernel
theorem dX4_moveBySet_38 : decode cX4_moveBySet 38 = .ok (.aload_n 0, 1) := by decide +kernel
theorem dX4_moveBySet_39 : decode cX4_moveBySet 39 = .ok (.dup, 1) := by decide +kernel
theorem dX4_moveBySet_40 : decode cX4_moveBySet 40 = .ok (.getfield 15, 3) := by decide +kernel
theorem dX4_moveBySet_43 : decode cX4_moveBySet 43 = .ok (.iconst 1, 1) := by decide +kernel
theorem dX4_moveBySet_44 : decode cX4_moveBySet 44 = .ok (.iadd, 1) := by decide +kernel
theorem dX4_moveBySet_45 : decode cX4_moveBySet 45 = .ok (.putfield 15, 3) := by decide +kernel
theorem dX4_moveBySet_48 : decode cX4_moveBySet 48 = .ok (.return_, 1) := by decide +kernel
theorem dX4_moveByStrike_0 : decode cX4_moveByStrike 0 = .ok (.aload_n 0, 1) := by decide +kernel
theorem dX4_moveByStrike_1 : decode cX4_moveByStrike 1 = .ok (.getfield 15, 3) := by decide +kernel
theorem dX4_moveByStrike_4 : decode cX4_moveByStrike 4 = .ok (.iload_n 1, 1) := by decide +kernel
theorem dX4_moveByStrike_5 : decode cX4_moveByStrike 5 = .ok (.if_icmp .le 16, 3) := by decide +kernel
theorem dX4_moveByStrike_8 : decode cX4_moveByStrike 8 = .ok (.aload_n 0, 1) := by decide +kernel
theorem dX4_moveByStrike_9 : decode cX4_moveByStrike 9 = .ok (.dup, 1) := by decide +kernel
theorem dX4_moveByStrike_10 : decode cX4_moveByStrike 10 = .ok (.getfield 15, 3) := by decide +kernel
theorem dX4_moveByStrike_13 : decode cX4_moveByStrike 13 = .ok (.iconst 1, 1) := by decide +kernel
theorem dX4_moveByStrike_14 : decode cX4_moveByStrike 14 = .ok (.isub, 1) := by decide +kernel
theorem dX4_moveByStrike_15 : decode cX4_moveByStrike 15 = .ok (.putfield 15, 3) := by decide +kernel
theorem dX4_moveByStrike_18 : decode cX4_moveByStrike 18 = .ok (.goto 29, 3) := by decide +kernel
theorem dX4_moveByStrike_21 : decode cX4_moveByStrike 21 = .ok (.aload_n 0, 1) := by decide +kernel
theorem dX4_moveByStrike_22 : decode cX4_moveByStrike 22 = .ok (.getfield 15, 3) := by decide +kernel
theorem dX4_moveByStrike_25 : decode cX4_moveByStrike 25 = .ok (.iload_n 1, 1) := by decide +kernel
theorem dX4_moveByStrike_26 : decode cX4_moveByStrike 26 = .ok (.if_icmp .ne 21, 3) := by decide +kernel
theorem dX4_moveByStrike_29 : decode cX4_moveByStrike 29 = .ok (.aload_n 0, 1) := by decide +kernel
theorem dX4_moveByStrike_30 : decode cX4_moveByStrike 30 = .ok (.getfield 9, 3) := by decide +kernel
theorem dX4_moveByStrike_33 : decode cX4_moveByStrike 33 = .ok (.iconst 2, 1) := by decide +kernel
theorem dX4_moveByStrike_34 : decode cX4_moveByStrike 34 = .ok (.if_icmp .ne 13, 3) := by decide +kernel
theorem dX4_moveByStrike_37 : decode cX4_moveByStrike 37 = .ok (.aload_n 0, 1) := by decide +kernel
theorem dX4_moveByStrike_38 : decode cX4_moveByStrike 38 = .ok (.iconst 0, 1) := by decide +kernel
theorem dX4_moveByStrike_39 : decode cX4_moveByStrike 39 = .ok (.putfield 9, 3) := by decide +kernel
theorem dX4_moveByStrike_42 : decode cX4_moveByStrike 42 = .ok (.aload_n 0, 1) := by decide +kernel
theorem dX4_moveByStrike_43 : decode cX4_moveByStrike 43 = .ok (.iconst (-1), 1) := by decide +kernel
theorem dX4_moveByStrike_44 : decode cX4_moveByStrike 44 = .ok (.putfield 15, 3) := by decide +kernel
theorem dX4_moveByStrike_47 : decode cX4_moveByStrike 47 = .ok (.return_, 1) := by decide +kernel
theorem dX5_init_0 : decode cX5_init 0 = .ok (.aload_n 0, 1) := by decide +kernel
theorem dX5_init_1 : decode cX5_init 1 = .ok (.invokespecial 3, 3) := by decide +kernel
theorem dX5_init_4 : decode cX5_init 4 = .ok (.aload_n 0, 1) := by decide +kernel
theorem dX5_init_5 : decode cX5_init 5 = .ok (.new 9, 3) := by decide +kernel
theorem dX5_init_8 : decode cX5_init 8 = .ok (.dup, 1) := by decide +kernel
theorem dX5_init_9 : decode cX5_init 9 = .ok (.bipush 12, 2) := by decide +kernel
theorem dX5_init_11 : decode cX5_init 11 = .ok (.invokespecial 11, 3) := by decide +kernel
theorem dX5_init_14 : decode cX5_init 14 = .ok (.putfield 14, 3) := by decide +kernel
theorem dX5_init_17 : decode cX5_init 17 = .ok (.aload_n 0, 1) := by decide +kernel
theorem dX5_init_18 : decode cX5_init 18 = .ok (.new 9, 3) := by decide +kernel
theorem dX5_init_21 : decode cX5_init 21 = .ok (.dup, 1) := by decide +kernel
theorem dX5_init_22 : decode cX5_init 22 = .ok (.bipush 12, 2) := by decide +kernel
theorem dX5_init_24 : decode cX5_init 24 = .ok (.invokespecial 11, 3) := by decide +kernel
theorem dX5_init_27 : decode cX5_init 27 = .ok (.putfield 20, 3) := by decide +kernel
theorem dX5_init_30 : decode cX5_init 30 = .ok (.aload_n 0, 1) := by decide +kernel
theorem dX5_init_31 : decode cX5_init 31 = .ok (.new 9, 3) := by decide +kernel
theorem dX5_init_34 : decode cX5_init 34 = .ok (.dup, 1) := by decide +kernel
theorem dX5_init_35 : decode cX5_init 35 = .ok (.bipush 12, 2) := by decide +kernel
theorem dX5_init_37 : decode cX5_init 37 = .ok (.invokespecial 11, 3) := by decide +kernel
theorem dX5_init_40 : decode cX5_init 40 = .ok (.putfield 23, 3) := by decide +kernel
theorem dX5_init_43 : decode cX5_init 43 = .ok (.aload_n 0, 1) := by decide +kernel
theorem dX5_init_44 : decode cX5_init 44 = .ok (.new 9, 3) := by decide +kernel
theorem dX5_init_47 : decode cX5_init 47 = .ok (.dup, 1) := by decide +kernel
theorem dX5_init_48 : decode cX5_init 48 = .ok (.bipush 12, 2) := by decide +kernel
theorem dX5_init_50 : decode cX5_init 50 = .ok (.invokespecial 11, 3) := by decide +kernel
theorem dX5_init_53 : decode cX5_init 53 = .ok (.putfield 26, 3) := by decide +kernel
theorem dX5_init_56 : decode cX5_init 56 = .ok (.return_, 1) := by decide +kernel
theorem dX5_size_0 : decode cX5_size 0 = .ok (.aload_n 0, 1) := by decide +kernel
theorem dX5_size_1 : decode cX5_size 1 = .ok (.getfield 14, 3) := by decide +kernel
theorem dX5_size_4 : decode cX5_size 4 = .ok (.getfield 29, 3) := by decide +kernel
theorem dX5_size_7 : decode cX5_size 7 = .ok (.ireturn, 1) := by decide +kernel
theorem dX5_read_0 : decode cX5_read 0 = .ok (.aload_n 2, 1) := by decide +kernel
theorem dX5_read_1 : decode cX5_read 1 = .ok (.aload_n 0, 1) := by decide +kernel
theorem dX5_read_2 : decode cX5_read 2 = .ok (.getfield 14, 3) := by decide +kernel
theorem dX5_read_5 : decode cX5_read 5 = .ok (.iload_n 1, 1) := by decide +kernel
theorem dX5_read_6 : decode cX5_read 6 = .ok (.invokevirtual 33, 3) := by decide +kernel
theorem dX5_read_9 : decode cX5_read 9 = .ok (.putfield 37, 3) := by decide +kernel
theorem dX5_read_12 : decode cX5_read 12 = .ok (.aload_n 2, 1) := by decide +kernel
theorem dX5_read_13 : decode cX5_read 13 = .ok (.aload_n 0, 1) := by decide +kernel
theorem dX5_read_14 : decode cX5_read 14 = .ok (.getfield 20, 3) := by decide +kernel
theorem dX5_read_17 : decode cX5_read 17 = .ok (.iload_n 1, 1) := by decide +kernel
theorem dX5_read_18 : decode cX5_read 18 = .ok (.invokevirtual 33, 3) := by decide +kernel
theorem dX5_read_21 : decode cX5_read 21 = .ok (.putfield 42, 3) := by decide +kernel
theorem dX5_read_24 : decode cX5_read 24 = .ok (.aload_n 2, 1) := by decide +kernel
theorem dX5_read_25 : decode cX5_read 25 = .ok (.aload_n 0, 1) := by decide +kernel
theorem dX5_read_26 : decode cX5_read 26 = .ok (.getfield 23, 3) := by decide +kernel
theorem dX5_read_29 : decode cX5_read 29 = .ok (.iload_n 1, 1) := by decide +kernel
theorem dX5_read_30 : decode cX5_read 30 = .ok (.invokevirtual 33, 3) := by decide +kernel
theorem dX5_read_33 : decode cX5_read 33 = .ok (.putfield 45, 3) := by decide +kernel
theorem dX5_read_36 : decode cX5_read 36 = .ok (.aload_n 2, 1) := by decide +kernel
theorem dX5_read_37 : decode cX5_read 37 = .ok (.aload_n 0, 1) := by decide +kernel
theorem dX5_read_38 : decode cX5_read 38 = .ok (.getfield 26, 3) := by decide +kernel
theorem dX5_read_41 : decode cX5_read 41 = .ok (.iload_n 1, 1) := by decide +kernel
theorem dX5_read_42 : decode cX5_read 42 = .ok (.invokevirtual 33, 3) := by decide +kernel
theorem dX5_read_45 : decode cX5_read 45 = .ok (.putfield 48, 3) := by decide +kernel
theorem dX5_read_48 : decode cX5_read 48 = .ok (.return_, 1) := by decide +kernel
