theorem dX5_append_0 : decode cX5_append 0 = .ok (.aload_n 0, 1) := by decide +kernel
theorem dX5_append_1 : decode cX5_append 1 = .ok (.getfield 14, 3) := by decide +kernel
theorem dX5_append_4 : decode cX5_append 4 = .ok (.aload_n 1, 1) := by decide +kernel
theorem dX5_append_5 : decode cX5_append 5 = .ok (.getfield 37, 3) := by decide +kernel
theorem dX5_append_8 : decode cX5_append 8 = .ok (.invokevirtual 51, 3) := by decide +kernel
theorem dX5_append_11 : decode cX5_append 11 = .ok (.aload_n 0, 1) := by decide +kernel
theorem dX5_append_12 : decode cX5_append 12 = .ok (.getfield 20, 3) := by decide +kernel
theorem dX5_append_15 : decode cX5_append 15 = .ok (.aload_n 1, 1) := by decide +kernel
theorem dX5_append_16 : decode cX5_append 16 = .ok (.getfield 42, 3) := by decide +kernel
theorem dX5_append_19 : decode cX5_append 19 = .ok (.invokevirtual 51, 3) := by decide +kernel
theorem dX5_append_22 : decode cX5_append 22 = .ok (.aload_n 0, 1) := by decide +kernel
theorem dX5_append_23 : decode cX5_append 23 = .ok (.getfield 23, 3) := by decide +kernel
theorem dX5_append_26 : decode cX5_append 26 = .ok (.aload_n 1, 1) := by decide +kernel
theorem dX5_append_27 : decode cX5_append 27 = .ok (.getfield 45, 3) := by decide +kernel
theorem dX5_append_30 : decode cX5_append 30 = .ok (.invokevirtual 51, 3) := by decide +kernel
theorem dX5_append_33 : decode cX5_append 33 = .ok (.aload_n 0, 1) := by decide +kernel
theorem dX5_append_34 : decode cX5_append 34 = .ok (.getfield 26, 3) := by decide +kernel
theorem dX5_append_37 : decode cX5_append 37 = .ok (.aload_n 1, 1) := by decide +kernel
theorem dX5_append_38 : decode cX5_append 38 = .ok (.getfield 48, 3) := by decide +kernel
theorem dX5_append_41 : decode cX5_append 41 = .ok (.invokevirtual 51, 3) := by decide +kernel
theorem dX5_append_44 : decode cX5_append 44 = .ok (.return_, 1) := by decide +kernel
theorem dX5_move_0 : decode cX5_move 0 = .ok (.aload_n 0, 1) := by decide +kernel
theorem dX5_move_1 : decode cX5_move 1 = .ok (.getfield 14, 3) := by decide +kernel
theorem dX5_move_4 : decode cX5_move 4 = .ok (.iload_n 1, 1) := by decide +kernel
theorem dX5_move_5 : decode cX5_move 5 = .ok (.aload_n 2, 1) := by decide +kernel
theorem dX5_move_6 : decode cX5_move 6 = .ok (.getfield 37, 3) := by decide +kernel
theorem dX5_move_9 : decode cX5_move 9 = .ok (.invokevirtual 54, 3) := by decide +kernel
theorem dX5_move_12 : decode cX5_move 12 = .ok (.aload_n 0, 1) := by decide +kernel
theorem dX5_move_13 : decode cX5_move 13 = .ok (.getfield 20, 3) := by decide +kernel
theorem dX5_move_16 : decode cX5_move 16 = .ok (.iload_n 1, 1) := by decide +kernel
theorem dX5_move_17 : decode cX5_move 17 = .ok (.aload_n 2, 1) := by decide +kernel
theorem dX5_move_18 : decode cX5_move 18 = .ok (.getfield 42, 3) := by decide +kernel
theorem dX5_move_21 : decode cX5_move 21 = .ok (.invokevirtual 54, 3) := by decide +kernel
theorem dX5_move_24 : decode cX5_move 24 = .ok (.return_, 1) := by decide +kernel
theorem dX5_dropFirst_0 : decode cX5_dropFirst 0 = .ok (.aload_n 0, 1) := by decide +kernel
theorem dX5_dropFirst_1 : decode cX5_dropFirst 1 = .ok (.getfield 14, 3) := by decide +kernel
theorem dX5_dropFirst_4 : decode cX5_dropFirst 4 = .ok (.iconst 0, 1) := by decide +kernel
theorem dX5_dropFirst_5 : decode cX5_dropFirst 5 = .ok (.invokevirtual 58, 3) := by decide +kernel
theorem dX5_dropFirst_8 : decode cX5_dropFirst 8 = .ok (.aload_n 0, 1) := by decide +kernel
theorem dX5_dropFirst_9 : decode cX5_dropFirst 9 = .ok (.getfield 20, 3) := by decide +kernel
theorem dX5_dropFirst_12 : decode cX5_dropFirst 12 = .ok (.iconst 0, 1) := by decide +kernel
theorem dX5_dropFirst_13 : decode cX5_dropFirst 13 = .ok (.invokevirtual 58, 3) := by decide +kernel
theorem dX5_dropFirst_16 : decode cX5_dropFirst 16 = .ok (.aload_n 0, 1) := by decide +kernel
theorem dX5_dropFirst_17 : decode cX5_dropFirst 17 = .ok (.getfield 23, 3) := by decide +kernel
theorem dX5_dropFirst_20 : decode cX5_dropFirst 20 = .ok (.iconst 0, 1) := by decide +kernel
theorem dX5_dropFirst_21 : decode cX5_dropFirst 21 = .ok (.invokevirtual 58, 3) := by decide +kernel
theorem dX5_dropFirst_24 : decode cX5_dropFirst 24 = .ok (.aload_n 0, 1) := by decide +kernel
theorem dX5_dropFirst_25 : decode cX5_dropFirst 25 = .ok (.getfield 26, 3) := by decide +kernel
theorem dX5_dropFirst_28 : decode cX5_dropFirst 28 = .ok (.iconst 0, 1) := by decide +kernel
theorem dX5_dropFirst_29 : decode cX5_dropFirst 29 = .ok (.invokevirtual 58, 3) := by decide +kernel
theorem dX5_dropFirst_32 : decode cX5_dropFirst 32 = .ok (.return_, 1) := by decide +kernel
theorem dX5_growth_0 : decode cX5_growth 0 = .ok (.iconst 0, 1) := by decide +kernel
theorem dX5_growth_1 : decode cX5_growth 1 = .ok (.istore_n 1, 1) := by decide +kernel
theorem dX5_growth_2 : decode cX5_growth 2 = .ok (.iconst 0, 1) := by decide +kernel
theorem dX5_growth_3 : decode cX5_growth 3 = .ok (.istore_n 2, 1) := by decide +kernel
theorem dX5_growth_4 : decode cX5_growth 4 = .ok (.iload_n 2, 1) := by decide +kernel
theorem dX5_growth_5 : decode cX5_growth 5 = .ok (.aload_n 0, 1) := by decide +kernel
theorem dX5_growth_6 : decode cX5_growth 6 = .ok (.getfield 14, 3) := by decide +kernel
theorem dX5_growth_9 : decode cX5_growth 9 = .ok (.getfield 29, 3) := by decide +kernel
theorem dX5_growth_12 : decode cX5_growth 12 = .ok (.if_icmp .ge 37, 3) := by decide +kernel
theorem dX5_growth_15 : decode cX5_growth 15 = .ok (.aload_n 0, 1) := by decide +kernel
theorem dX5_growth_16 : decode cX5_growth 16 = .ok (.getfield 14, 3) := by decide +kernel
theorem dX5_growth_19 : decode cX5_growth 19 = .ok (.iload_n 2, 1) := by decide +kernel
theorem dX5_growth_20 : decode cX5_growth 20 = .ok (.invokevirtual 33, 3) := by decide +kernel
theorem dX5_growth_23 : decode cX5_growth 23 = .ok (.istore_n 3, 1) := by decide +kernel
theorem dX5_growth_24 : decode cX5_growth 24 = .ok (.iload_n 3, 1) := by decide +kernel
theorem dX5_growth_25 : decode cX5_growth 25 = .ok (.iconst 1, 1) := by decide +kernel
theorem dX5_growth_26 : decode cX5_growth 26 = .ok (.if_icmp .ne 9, 3) := by decide +kernel
theorem dX5_growth_29 : decode cX5_growth 29 = .ok (.iinc 1 1, 3) := by decide +kernel
theorem dX5_growth_32 : decode cX5_growth 32 = .ok (.goto 11, 3) := by decide +kernel
theorem dX5_growth_35 : decode cX5_growth 35 = .ok (.iload_n 3, 1) := by decide +kernel
theorem dX5_growth_36 : decode cX5_growth 36 = .ok (.iconst 2, 1) := by decide +kernel
theorem dX5_growth_37 : decode cX5_growth 37 = .ok (.if_icmp .ne 6, 3) := by decide +kernel
theorem dX5_growth_40 : decode cX5_growth 40 = .ok (.iinc 1 (-1), 3) := by decide +kernel
theorem dX5_growth_43 : decode cX5_growth 43 = .ok (.iinc 2 1, 3) := by decide +kernel
theorem dX5_growth_46 : decode cX5_growth 46 = .ok (.goto (-42), 3) := by decide +kernel
theorem dX5_growth_49 : decode cX5_growth 49 = .ok (.iload_n 1, 1) := by decide +kernel
theorem dX5_growth_50 : decode cX5_growth 50 = .ok (.ireturn, 1) := by decide +kernel
theorem dX6_init_0 : decode cX6_init 0 = .ok (.aload_n 0, 1) := by decide +kernel
theorem dX6_init_1 : decode cX6_init 1 = .ok (.invokespecial 1, 3) := by decide +kernel
theorem dX6_init_4 : decode cX6_init 4 = .ok (.aload_n 0, 1) := by decide +kernel
theorem dX6_init_5 : decode cX6_init 5 = .ok (.new 7, 3) := by decide +kernel
theorem dX6_init_8 : decode cX6_init 8 = .ok (.dup, 1) := by decide +kernel
theorem dX6_init_9 : decode cX6_init 9 = .ok (.invokespecial 9, 3) := by decide +kernel
theorem dX6_init_12 : decode cX6_init 12 = .ok (.putfield 10, 3) := by decide +kernel
theorem dX6_init_15 : decode cX6_init 15 = .ok (.aload_n 0, 1) := by decide +kernel
theorem dX6_init_16 : decode cX6_init 16 = .ok (.new 7, 3) := by decide +kernel
theorem dX6_init_19 : decode cX6_init 19 = .ok (.dup, 1) := by decide +kernel
theorem dX6_init_20 : decode cX6_init 20 = .ok (.invokespecial 9, 3) := by decide +kernel
theorem dX6_init_23 : decode cX6_init 23 = .ok (.putfield 16, 3) := by decide +kernel
theorem dX6_init_26 : decode cX6_init 26 = .ok (.aload_n 0, 1) := by decide +kernel
theorem dX6_init_27 : decode cX6_init 27 = .ok (.new 19, 3) := by decide +kernel
theorem dX6_init_30 : decode cX6_init 30 = .ok (.dup, 1) := by decide +kernel
theorem dX6_init_31 : decode cX6_init 31 = .ok (.iconst 0, 1) := by decide +kernel
theorem dX6_init_32 : decode cX6_init 32 = .ok (.iconst (-1), 1) := by decide +kernel
theorem dX6_init_33 : decode cX6_init 33 = .ok (.iconst (-1), 1) := by decide +kernel
theorem dX6_init_34 : decode cX6_init 34 = .ok (.iconst (-1), 1) := by decide +kernel
theorem dX6_init_35 : decode cX6_init 35 = .ok (.iconst (-1), 1) := by decide +kernel
theorem dX6_init_36 : decode cX6_init 36 = .ok (.invokespecial 21, 3) := by decide +kernel
theorem dX6_init_39 : decode cX6_init 39 = .ok (.putfield 24, 3) := by decide +kernel
theorem dX6_init_42 : decode cX6_init 42 = .ok (.return_, 1) := by decide +kernel
theorem dX6_setRule_0 : decode cX6_setRule 0 = .ok (.iload_n 1, 1) := by decide +kernel
theorem dX6_setRule_1 : decode cX6_setRule 1 = .ok (.ifCond .lt 8, 3) := by decide +kernel
theorem dX6_setRule_4 : decode cX6_setRule 4 = .ok (.iload_n 1, 1) := by decide +kernel
theorem dX6_setRule_5 : decode cX6_setRule 5 = .ok (.iconst 2, 1) := by decide +kernel
theorem dX6_setRule_6 : decode cX6_setRule 6 = .ok (.if_icmp .le 13, 3) := by decide +kernel
theorem dX6_setRule_9 : decode cX6_setRule 9 = .ok (.new 28, 3) := by decide +kernel
theorem dX6_setRule_12 : decode cX6_setRule 12 = .ok (.dup, 1) := by decide +kernel
theorem dX6_setRule_13 : decode cX6_setRule 13 = .ok (.ldc 30, 2) := by decide +kernel
theorem dX6_setRule_15 : decode cX6_setRule 15 = .ok (.invokespecial 32, 3) := by decide +kernel
theorem dX6_setRule_18 : decode cX6_setRule 18 = .ok (.athrow, 1) := by decide +kernel
theorem dX6_setRule_19 : decode cX6_setRule 19 = .ok (.aload_n 0, 1) := by decide +kernel
theorem dX6_setRule_20 : decode cX6_setRule 20 = .ok (.invokevirtual 35, 3) := by decide +kernel
theorem dX6_setRule_23 : decode cX6_setRule 23 = .ok (.ifCond .le 13, 3) := by decide +kernel
theorem dX6_setRule_26 : decode cX6_setRule 26 = .ok (.new 39, 3) := by decide +kernel
theorem dX6_setRule_29 : decode cX6_setRule 29 = .ok (.dup, 1) := by decide +kernel
theorem dX6_setRule_30 : decode cX6_setRule 30 = .ok (.ldc 41, 2) := by decide +kernel
theorem dX6_setRule_32 : decode cX6_setRule 32 = .ok (.invokespecial 43, 3) := by decide +kernel
theorem dX6_setRule_35 : decode cX6_setRule 35 = .ok (.athrow, 1) := by decide +kernel
theorem dX6_setRule_36 : decode cX6_setRule 36 = .ok (.aload_n 0, 1) := by decide +kernel
theorem dX6_setRule_37 : decode cX6_setRule 37 = .ok (.getfield 44, 3) := by decide +kernel
theorem dX6_setRule_40 : decode cX6_setRule 40 = .ok (.istore_n 2, 1) := by decide +kernel
theorem dX6_setRule_41 : decode cX6_setRule 41 = .ok (.aload_n 0, 1) := by decide +kernel
theorem dX6_setRule_42 : decode cX6_setRule 42 = .ok (.iload_n 1, 1) := by decide +kernel
theorem dX6_setRule_43 : decode cX6_setRule 43 = .ok (.putfield 44, 3) := by decide +kernel
theorem dX6_setRule_46 : decode cX6_setRule 46 = .ok (.iload_n 2, 1) := by decide +kernel
theorem dX6_setRule_47 : decode cX6_setRule 47 = .ok (.ireturn, 1) := by decide +kernel
theorem dX6_set_0 : decode cX6_set 0 = .ok (.aload_n 0, 1) := by decide +kernel
theorem dX6_set_1 : decode cX6_set 1 = .ok (.iload_n 1, 1) := by decide +kernel
theorem dX6_set_2 : decode cX6_set 2 = .ok (.iload_n 2, 1) := by decide +kernel
theorem dX6_set_3 : decode cX6_set 3 = .ok (.invokevirtual 48, 3) := by decide +kernel
theorem dX6_set_6 : decode cX6_set 6 = .ok (.iload_n 3, 1) := by decide +kernel
theorem dX6_set_7 : decode cX6_set 7 = .ok (.iload 4, 2) := by decide +kernel
theorem dX6_set_9 : decode cX6_set 9 = .ok (.invokestatic 52, 3) := by decide +kernel
theorem dX6_set_12 : decode cX6_set 12 = .ok (.aload_n 0, 1) := by decide +kernel
theorem dX6_set_13 : decode cX6_set 13 = .ok (.iload_n 1, 1) := by decide +kernel
theorem dX6_set_14 : decode cX6_set 14 = .ok (.invokevirtual 55, 3) := by decide +kernel
theorem dX6_set_17 : decode cX6_set 17 = .ok (.aload_n 0, 1) := by decide +kernel
theorem dX6_set_18 : decode cX6_set 18 = .ok (.iload_n 1, 1) := by decide +kernel
theorem dX6_set_19 : decode cX6_set 19 = .ok (.invokevirtual 59, 3) := by decide +kernel
theorem dX6_set_22 : decode cX6_set 22 = .ok (.aload_n 0, 1) := by decide +kernel
theorem dX6_set_23 : decode cX6_set 23 = .ok (.invokevirtual 62, 3) := by decide +kernel
theorem dX6_set_26 : decode cX6_set 26 = .ok (.istore 5, 2) := by decide +kernel
theorem dX6_set_28 : decode cX6_set 28 = .ok (.aload_n 0, 1) := by decide +kernel
theorem dX6_set_29 : decode cX6_set 29 = .ok (.iload_n 1, 1) := by decide +kernel
theorem dX6_set_30 : decode cX6_set 30 = .ok (.new 19, 3) := by decide +kernel
theorem dX6_set_33 : decode cX6_set 33 = .ok (.dup, 1) := by decide +kernel
theorem dX6_set_34 : decode cX6_set 34 = .ok (.iconst 1, 1) := by decide +kernel
theorem dX6_set_35 : decode cX6_set 35 = .ok (.iload_n 2, 1) := by decide +kernel
theorem dX6_set_36 : decode cX6_set 36 = .ok (.iload_n 3, 1) := by decide +kernel
theorem dX6_set_37 : decode cX6_set 37 = .ok (.iload 4, 2) := by decide +kernel
theorem dX6_set_39 : decode cX6_set 39 = .ok (.iload 5, 2) := by decide +kernel
theorem dX6_set_41 : decode cX6_set 41 = .ok (.invokespecial 21, 3) := by decide +kernel
theorem dX6_set_44 : decode cX6_set 44 = .ok (.invokevirtual 65, 3) := by decide +kernel
theorem dX6_set_47 : decode cX6_set 47 = .ok (.aload_n 0, 1) := by decide +kernel
theorem dX6_set_48 : decode cX6_set 48 = .ok (.iload_n 1, 1) := by decide +kernel
theorem dX6_set_49 : decode cX6_set 49 = .ok (.invokevirtual 69, 3) := by decide +kernel
theorem dX6_set_52 : decode cX6_set 52 = .ok (.getfield 73, 3) := by decide +kernel
theorem dX6_set_55 : decode cX6_set 55 = .ok (.iload 5, 2) := by decide +kernel
theorem dX6_set_57 : decode cX6_set 57 = .ok (.invokevirtual 77, 3) := by decide +kernel
theorem dX6_set_60 : decode cX6_set 60 = .ok (.aload_n 0, 1) := by decide +kernel
theorem dX6_set_61 : decode cX6_set 61 = .ok (.iload_n 1, 1) := by decide +kernel
theorem dX6_set_62 : decode cX6_set 62 = .ok (.invokevirtual 82, 3) := by decide +kernel
theorem dX6_set_65 : decode cX6_set 65 = .ok (.getfield 85, 3) := by decide +kernel
theorem dX6_set_68 : decode cX6_set 68 = .ok (.invokevirtual 89, 3) := by decide +kernel
theorem dX6_set_71 : decode cX6_set 71 = .ok (.ireturn, 1) := by decide +kernel
theorem dX6_strike_0 : decode cX6_strike 0 = .ok (.aload_n 0, 1) := by decide +kernel
theorem dX6_strike_1 : decode cX6_strike 1 = .ok (.iload_n 1, 1) := by decide +kernel
theorem dX6_strike_2 : decode cX6_strike 2 = .ok (.iload_n 2, 1) := by decide +kernel
theorem dX6_strike_3 : decode cX6_strike 3 = .ok (.invokevirtual 94, 3) := by decide +kernel
theorem dX6_strike_6 : decode cX6_strike 6 = .ok (.aload_n 0, 1) := by decide +kernel
theorem dX6_strike_7 : decode cX6_strike 7 = .ok (.iload_n 1, 1) := by decide +kernel
theorem dX6_strike_8 : decode cX6_strike 8 = .ok (.invokevirtual 59, 3) := by decide +kernel
theorem dX6_strike_11 : decode cX6_strike 11 = .ok (.aload_n 0, 1) := by decide +kernel
theorem dX6_strike_12 : decode cX6_strike 12 = .ok (.iload_n 1, 1) := by decide +kernel
theorem dX6_strike_13 : decode cX6_strike 13 = .ok (.invokevirtual 69, 3) := by decide +kernel
theorem dX6_strike_16 : decode cX6_strike 16 = .ok (.getfield 97, 3) := by decide +kernel
theorem dX6_strike_19 : decode cX6_strike 19 = .ok (.getfield 101, 3) := by decide +kernel
theorem dX6_strike_22 : decode cX6_strike 22 = .ok (.iload_n 2, 1) := by decide +kernel
theorem dX6_strike_23 : decode cX6_strike 23 = .ok (.invokevirtual 107, 3) := by decide +kernel
theorem dX6_strike_26 : decode cX6_strike 26 = .ok (.istore_n 3, 1) := by decide +kernel
theorem dX6_strike_27 : decode cX6_strike 27 = .ok (.aload_n 0, 1) := by decide +kernel
theorem dX6_strike_28 : decode cX6_strike 28 = .ok (.iload_n 1, 1) := by decide +kernel
theorem dX6_strike_29 : decode cX6_strike 29 = .ok (.iload_n 2, 1) := by decide +kernel
theorem dX6_strike_30 : decode cX6_strike 30 = .ok (.invokestatic 113, 3) := by decide +kernel
theorem dX6_strike_33 : decode cX6_strike 33 = .ok (.invokevirtual 65, 3) := by decide +kernel
theorem dX6_strike_36 : decode cX6_strike 36 = .ok (.aload_n 0, 1) := by decide +kernel
theorem dX6_strike_37 : decode cX6_strike 37 = .ok (.iload_n 1, 1) := by decide +kernel
theorem dX6_strike_38 : decode cX6_strike 38 = .ok (.invokevirtual 69, 3) := by decide +kernel
theorem dX6_strike_41 : decode cX6_strike 41 = .ok (.getfield 73, 3) := by decide +kernel
theorem dX6_strike_44 : decode cX6_strike 44 = .ok (.iload_n 2, 1) := by decide +kernel
theorem dX6_strike_45 : decode cX6_strike 45 = .ok (.iload_n 3, 1) := by decide +kernel
theorem dX6_strike_46 : decode cX6_strike 46 = .ok (.invokevirtual 117, 3) := by decide +kernel
theorem dX6_strike_49 : decode cX6_strike 49 = .ok (.iload_n 3, 1) := by decide +kernel
theorem dX6_strike_50 : decode cX6_strike 50 = .ok (.ireturn, 1) := by decide +kernel
theorem dX6_undo_0 : decode cX6_undo 0 = .ok (.iload_n 1, 1) := by decide +kernel
theorem dX6_undo_1 : decode cX6_undo 1 = .ok (.invokestatic 120, 3) := by decide +kernel
theorem dX6_undo_4 : decode cX6_undo 4 = .ok (.aload_n 0, 1) := by decide +kernel
theorem dX6_undo_5 : decode cX6_undo 5 = .ok (.iload_n 1, 1) := by decide +kernel
theorem dX6_undo_6 : decode cX6_undo 6 = .ok (.invokevirtual 69, 3) := by decide +kernel
theorem dX6_undo_9 : decode cX6_undo 9 = .ok (.getfield 73, 3) := by decide +kernel
theorem dX6_undo_12 : decode cX6_undo 12 = .ok (.astore_n 2, 1) := by decide +kernel
theorem dX6_undo_13 : decode cX6_undo 13 = .ok (.aload_n 2, 1) := by decide +kernel
theorem dX6_undo_14 : decode cX6_undo 14 = .ok (.invokevirtual 123, 3) := by decide +kernel
theorem dX6_undo_17 : decode cX6_undo 17 = .ok (.ifCond .ne 13, 3) := by decide +kernel
theorem dX6_undo_20 : decode cX6_undo 20 = .ok (.new 39, 3) := by decide +kernel
theorem dX6_undo_23 : decode cX6_undo 23 = .ok (.dup, 1) := by decide +kernel
theorem dX6_undo_24 : decode cX6_undo 24 = .ok (.ldc 124, 2) := by decide +kernel
theorem dX6_undo_26 : decode cX6_undo 26 = .ok (.invokespecial 43, 3) := by decide +kernel
theorem dX6_undo_29 : decode cX6_undo 29 = .ok (.athrow, 1) := by decide +kernel
theorem dX6_undo_30 : decode cX6_undo 30 = .ok (.aload_n 0, 1) := by decide +kernel
theorem dX6_undo_31 : decode cX6_undo 31 = .ok (.iload_n 1, 1) := by decide +kernel
theorem dX6_undo_32 : decode cX6_undo 32 = .ok (.invokevirtual 55, 3) := by decide +kernel
theorem dX6_undo_35 : decode cX6_undo 35 = .ok (.aload_n 0, 1) := by decide +kernel
theorem dX6_undo_36 : decode cX6_undo 36 = .ok (.iload_n 1, 1) := by decide +kernel
theorem dX6_undo_37 : decode cX6_undo 37 = .ok (.invokevirtual 59, 3) := by decide +kernel
theorem dX6_undo_40 : decode cX6_undo 40 = .ok (.aload_n 0, 1) := by decide +kernel
theorem dX6_undo_41 : decode cX6_undo 41 = .ok (.iload_n 1, 1) := by decide +kernel
theorem dX6_undo_42 : decode cX6_undo 42 = .ok (.invokevirtual 126, 3) := by decide +kernel
theorem dX6_undo_45 : decode cX6_undo 45 = .ok (.istore_n 3, 1) := by decide +kernel
theorem dX6_undo_46 : decode cX6_undo 46 = .ok (.aload_n 2, 1) := by decide +kernel
theorem dX6_undo_47 : decode cX6_undo 47 = .ok (.invokevirtual 129, 3) := by decide +kernel
theorem dX6_undo_50 : decode cX6_undo 50 = .ok (.istore 4, 2) := by decide +kernel
theorem dX6_undo_52 : decode cX6_undo 52 = .ok (.aload_n 2, 1) := by decide +kernel
theorem dX6_undo_53 : decode cX6_undo 53 = .ok (.invokevirtual 132, 3) := by decide +kernel
theorem dX6_undo_56 : decode cX6_undo 56 = .ok (.istore 5, 2) := by decide +kernel
theorem dX6_undo_58 : decode cX6_undo 58 = .ok (.aload_n 2, 1) := by decide +kernel
theorem dX6_undo_59 : decode cX6_undo 59 = .ok (.invokevirtual 136, 3) := by decide +kernel
theorem dX6_undo_62 : decode cX6_undo 62 = .ok (.iload_n 3, 1) := by decide +kernel
theorem dX6_undo_63 : decode cX6_undo 63 = .ok (.ifCond .ge 5, 3) := by decide +kernel
theorem dX6_undo_66 : decode cX6_undo 66 = .ok (.iconst (-1), 1) := by decide +kernel
theorem dX6_undo_67 : decode cX6_undo 67 = .ok (.ireturn, 1) := by decide +kernel
theorem dX6_undo_68 : decode cX6_undo 68 = .ok (.aload_n 0, 1) := by decide +kernel
theorem dX6_undo_69 : decode cX6_undo 69 = .ok (.iload_n 1, 1) := by decide +kernel
theorem dX6_undo_70 : decode cX6_undo 70 = .ok (.iload 5, 2) := by decide +kernel
theorem dX6_undo_72 : decode cX6_undo 72 = .ok (.ifCond .eq 22, 3) := by decide +kernel
theorem dX6_undo_75 : decode cX6_undo 75 = .ok (.new 19, 3) := by decide +kernel
theorem dX6_undo_78 : decode cX6_undo 78 = .ok (.dup, 1) := by decide +kernel
theorem dX6_undo_79 : decode cX6_undo 79 = .ok (.iconst 1, 1) := by decide +kernel
theorem dX6_undo_80 : decode cX6_undo 80 = .ok (.iload_n 3, 1) := by decide +kernel
theorem dX6_undo_81 : decode cX6_undo 81 = .ok (.iload 4, 2) := by decide +kernel
theorem dX6_undo_83 : decode cX6_undo 83 = .ok (.iconst 0, 1) := by decide +kernel
theorem dX6_undo_84 : decode cX6_undo 84 = .ok (.aload_n 0, 1) := by decide +kernel
theorem dX6_undo_85 : decode cX6_undo 85 = .ok (.invokevirtual 62, 3) := by decide +kernel
theorem dX6_undo_88 : decode cX6_undo 88 = .ok (.invokespecial 21, 3) := by decide +kernel
theorem dX6_undo_91 : decode cX6_undo 91 = .ok (.goto 7, 3) := by decide +kernel
theorem dX6_undo_94 : decode cX6_undo 94 = .ok (.iload_n 3, 1) := by decide +kernel
theorem dX6_undo_95 : decode cX6_undo 95 = .ok (.invokestatic 113, 3) := by decide +kernel
theorem dX6_undo_98 : decode cX6_undo 98 = .ok (.invokevirtual 65, 3) := by decide +kernel
theorem dX6_undo_101 : decode cX6_undo 101 = .ok (.iload_n 3, 1) := by decide +kernel
theorem dX6_undo_102 : decode cX6_undo 102 = .ok (.ireturn, 1) := by decide +kernel
theorem dX6_come_0 : decode cX6_come 0 = .ok (.iload_n 1, 1) := by decide +kernel
theorem dX6_come_1 : decode cX6_come 1 = .ok (.invokestatic 120, 3) := by decide +kernel
theorem dX6_come_4 : decode cX6_come 4 = .ok (.aload_n 0, 1) := by decide +kernel
theorem dX6_come_5 : decode cX6_come 5 = .ok (.iload_n 1, 1) := by decide +kernel
theorem dX6_come_6 : decode cX6_come 6 = .ok (.invokevirtual 69, 3) := by decide +kernel
theorem dX6_come_9 : decode cX6_come 9 = .ok (.getfield 85, 3) := by decide +kernel
theorem dX6_come_12 : decode cX6_come 12 = .ok (.invokevirtual 89, 3) := by decide +kernel
theorem dX6_come_15 : decode cX6_come 15 = .ok (.ifCond .ne 13, 3) := by decide +kernel
theorem dX6_come_18 : decode cX6_come 18 = .ok (.new 39, 3) := by decide +kernel
theorem dX6_come_21 : decode cX6_come 21 = .ok (.dup, 1) := by decide +kernel
theorem dX6_come_22 : decode cX6_come 22 = .ok (.ldc 139, 2) := by decide +kernel
theorem dX6_come_24 : decode cX6_come 24 = .ok (.invokespecial 43, 3) := by decide +kernel
theorem dX6_come_27 : decode cX6_come 27 = .ok (.athrow, 1) := by decide +kernel
theorem dX6_come_28 : decode cX6_come 28 = .ok (.aload_n 0, 1) := by decide +kernel
theorem dX6_come_29 : decode cX6_come 29 = .ok (.iload_n 1, 1) := by decide +kernel
theorem dX6_come_30 : decode cX6_come 30 = .ok (.invokevirtual 141, 3) := by decide +kernel
theorem dX6_come_33 : decode cX6_come 33 = .ok (.ireturn, 1) := by decide +kernel
theorem dX6_meet_0 : decode cX6_meet 0 = .ok (.aload_n 0, 1) := by decide +kernel
theorem dX6_meet_1 : decode cX6_meet 1 = .ok (.invokevirtual 35, 3) := by decide +kernel
theorem dX6_meet_4 : decode cX6_meet 4 = .ok (.istore_n 1, 1) := by decide +kernel
theorem dX6_meet_5 : decode cX6_meet 5 = .ok (.aload_n 0, 1) := by decide +kernel
theorem dX6_meet_6 : decode cX6_meet 6 = .ok (.iconst 0, 1) := by decide +kernel
theorem dX6_meet_7 : decode cX6_meet 7 = .ok (.invokevirtual 144, 3) := by decide +kernel
theorem dX6_meet_10 : decode cX6_meet 10 = .ok (.aload_n 0, 1) := by decide +kernel
theorem dX6_meet_11 : decode cX6_meet 11 = .ok (.iconst 1, 1) := by decide +kernel
theorem dX6_meet_12 : decode cX6_meet 12 = .ok (.invokevirtual 144, 3) := by decide +kernel
theorem dX6_meet_15 : decode cX6_meet 15 = .ok (.iload_n 1, 1) := by decide +kernel
theorem dX6_meet_16 : decode cX6_meet 16 = .ok (.ireturn, 1) := by decide +kernel
theorem dX6_letter_0 : decode cX6_letter 0 = .ok (.aload_n 0, 1) := by decide +kernel
theorem dX6_letter_1 : decode cX6_letter 1 = .ok (.iload_n 1, 1) := by decide +kernel
theorem dX6_letter_2 : decode cX6_letter 2 = .ok (.iload_n 2, 1) := by decide +kernel
theorem dX6_letter_3 : decode cX6_letter 3 = .ok (.invokevirtual 94, 3) := by decide +kernel
theorem dX6_letter_6 : decode cX6_letter 6 = .ok (.aload_n 0, 1) := by decide +kernel
theorem dX6_letter_7 : decode cX6_letter 7 = .ok (.iload_n 1, 1) := by decide +kernel
theorem dX6_letter_8 : decode cX6_letter 8 = .ok (.invokevirtual 69, 3) := by decide +kernel
theorem dX6_letter_11 : decode cX6_letter 11 = .ok (.getfield 97, 3) := by decide +kernel
theorem dX6_letter_14 : decode cX6_letter 14 = .ok (.getfield 101, 3) := by decide +kernel
theorem dX6_letter_17 : decode cX6_letter 17 = .ok (.iload_n 2, 1) := by decide +kernel
theorem dX6_letter_18 : decode cX6_letter 18 = .ok (.invokevirtual 107, 3) := by decide +kernel
theorem dX6_letter_21 : decode cX6_letter 21 = .ok (.ireturn, 1) := by decide +kernel
