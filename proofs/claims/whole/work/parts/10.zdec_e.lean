theorem dX9_init_0 : decode cX9_init 0 = .ok (.aload_n 0, 1) := by decide +kernel
theorem dX9_init_1 : decode cX9_init 1 = .ok (.invokespecial 1, 3) := by decide +kernel
theorem dX9_init_4 : decode cX9_init 4 = .ok (.aload_n 0, 1) := by decide +kernel
theorem dX9_init_5 : decode cX9_init 5 = .ok (.new 7, 3) := by decide +kernel
theorem dX9_init_8 : decode cX9_init 8 = .ok (.dup, 1) := by decide +kernel
theorem dX9_init_9 : decode cX9_init 9 = .ok (.invokespecial 9, 3) := by decide +kernel
theorem dX9_init_12 : decode cX9_init 12 = .ok (.putfield 10, 3) := by decide +kernel
theorem dX9_init_15 : decode cX9_init 15 = .ok (.aload_n 0, 1) := by decide +kernel
theorem dX9_init_16 : decode cX9_init 16 = .ok (.new 16, 3) := by decide +kernel
theorem dX9_init_19 : decode cX9_init 19 = .ok (.dup, 1) := by decide +kernel
theorem dX9_init_20 : decode cX9_init 20 = .ok (.invokespecial 18, 3) := by decide +kernel
theorem dX9_init_23 : decode cX9_init 23 = .ok (.putfield 19, 3) := by decide +kernel
theorem dX9_init_26 : decode cX9_init 26 = .ok (.aload_n 0, 1) := by decide +kernel
theorem dX9_init_27 : decode cX9_init 27 = .ok (.new 23, 3) := by decide +kernel
theorem dX9_init_30 : decode cX9_init 30 = .ok (.dup, 1) := by decide +kernel
theorem dX9_init_31 : decode cX9_init 31 = .ok (.invokespecial 25, 3) := by decide +kernel
theorem dX9_init_34 : decode cX9_init 34 = .ok (.putfield 26, 3) := by decide +kernel
theorem dX9_init_37 : decode cX9_init 37 = .ok (.aload_n 0, 1) := by decide +kernel
theorem dX9_init_38 : decode cX9_init 38 = .ok (.new 23, 3) := by decide +kernel
theorem dX9_init_41 : decode cX9_init 41 = .ok (.dup, 1) := by decide +kernel
theorem dX9_init_42 : decode cX9_init 42 = .ok (.invokespecial 25, 3) := by decide +kernel
theorem dX9_init_45 : decode cX9_init 45 = .ok (.putfield 30, 3) := by decide +kernel
theorem dX9_init_48 : decode cX9_init 48 = .ok (.return_, 1) := by decide +kernel
theorem dX9_cell_0 : decode cX9_cell 0 = .ok (.aload_n 0, 1) := by decide +kernel
theorem dX9_cell_1 : decode cX9_cell 1 = .ok (.getfield 10, 3) := by decide +kernel
theorem dX9_cell_4 : decode cX9_cell 4 = .ok (.getfield 33, 3) := by decide +kernel
theorem dX9_cell_7 : decode cX9_cell 7 = .ok (.getfield 37, 3) := by decide +kernel
theorem dX9_cell_10 : decode cX9_cell 10 = .ok (.bipush 10, 2) := by decide +kernel
theorem dX9_cell_12 : decode cX9_cell 12 = .ok (.if_icmp .ge 10, 3) := by decide +kernel
theorem dX9_cell_15 : decode cX9_cell 15 = .ok (.iload_n 1, 1) := by decide +kernel
theorem dX9_cell_16 : decode cX9_cell 16 = .ok (.invokestatic 43, 3) := by decide +kernel
theorem dX9_cell_19 : decode cX9_cell 19 = .ok (.ifCond .ne 5, 3) := by decide +kernel
theorem dX9_cell_22 : decode cX9_cell 22 = .ok (.iconst (-1), 1) := by decide +kernel
theorem dX9_cell_23 : decode cX9_cell 23 = .ok (.ireturn, 1) := by decide +kernel
theorem dX9_cell_24 : decode cX9_cell 24 = .ok (.aload_n 0, 1) := by decide +kernel
theorem dX9_cell_25 : decode cX9_cell 25 = .ok (.getfield 10, 3) := by decide +kernel
theorem dX9_cell_28 : decode cX9_cell 28 = .ok (.getfield 33, 3) := by decide +kernel
theorem dX9_cell_31 : decode cX9_cell 31 = .ok (.iload_n 1, 1) := by decide +kernel
theorem dX9_cell_32 : decode cX9_cell 32 = .ok (.iload_n 2, 1) := by decide +kernel
theorem dX9_cell_33 : decode cX9_cell 33 = .ok (.invokevirtual 47, 3) := by decide +kernel
theorem dX9_cell_36 : decode cX9_cell 36 = .ok (.istore_n 3, 1) := by decide +kernel
theorem dX9_cell_37 : decode cX9_cell 37 = .ok (.aload_n 0, 1) := by decide +kernel
theorem dX9_cell_38 : decode cX9_cell 38 = .ok (.getfield 26, 3) := by decide +kernel
theorem dX9_cell_41 : decode cX9_cell 41 = .ok (.aload_n 0, 1) := by decide +kernel
theorem dX9_cell_42 : decode cX9_cell 42 = .ok (.getfield 26, 3) := by decide +kernel
theorem dX9_cell_45 : decode cX9_cell 45 = .ok (.getfield 51, 3) := by decide +kernel
theorem dX9_cell_48 : decode cX9_cell 48 = .ok (.iload_n 3, 1) := by decide +kernel
theorem dX9_cell_49 : decode cX9_cell 49 = .ok (.iload_n 1, 1) := by decide +kernel
theorem dX9_cell_50 : decode cX9_cell 50 = .ok (.invokestatic 55, 3) := by decide +kernel
theorem dX9_cell_53 : decode cX9_cell 53 = .ok (.putfield 51, 3) := by decide +kernel
theorem dX9_cell_56 : decode cX9_cell 56 = .ok (.iload_n 3, 1) := by decide +kernel
theorem dX9_cell_57 : decode cX9_cell 57 = .ok (.ireturn, 1) := by decide +kernel
theorem dX9_weigh_0 : decode cX9_weigh 0 = .ok (.aload_n 0, 1) := by decide +kernel
theorem dX9_weigh_1 : decode cX9_weigh 1 = .ok (.getfield 10, 3) := by decide +kernel
theorem dX9_weigh_4 : decode cX9_weigh 4 = .ok (.getfield 33, 3) := by decide +kernel
theorem dX9_weigh_7 : decode cX9_weigh 7 = .ok (.iload_n 1, 1) := by decide +kernel
theorem dX9_weigh_8 : decode cX9_weigh 8 = .ok (.invokevirtual 59, 3) := by decide +kernel
theorem dX9_weigh_11 : decode cX9_weigh 11 = .ok (.ifCond .eq 14, 3) := by decide +kernel
theorem dX9_weigh_14 : decode cX9_weigh 14 = .ok (.iload_n 2, 1) := by decide +kernel
theorem dX9_weigh_15 : decode cX9_weigh 15 = .ok (.bipush (-100), 2) := by decide +kernel
theorem dX9_weigh_17 : decode cX9_weigh 17 = .ok (.bipush 100, 2) := by decide +kernel
theorem dX9_weigh_19 : decode cX9_weigh 19 = .ok (.invokestatic 62, 3) := by decide +kernel
theorem dX9_weigh_22 : decode cX9_weigh 22 = .ok (.ifCond .ne 5, 3) := by decide +kernel
theorem dX9_weigh_25 : decode cX9_weigh 25 = .ok (.iconst 0, 1) := by decide +kernel
theorem dX9_weigh_26 : decode cX9_weigh 26 = .ok (.ireturn, 1) := by decide +kernel
theorem dX9_weigh_27 : decode cX9_weigh 27 = .ok (.aload_n 0, 1) := by decide +kernel
theorem dX9_weigh_28 : decode cX9_weigh 28 = .ok (.getfield 10, 3) := by decide +kernel
theorem dX9_weigh_31 : decode cX9_weigh 31 = .ok (.getfield 33, 3) := by decide +kernel
theorem dX9_weigh_34 : decode cX9_weigh 34 = .ok (.getfield 66, 3) := by decide +kernel
theorem dX9_weigh_37 : decode cX9_weigh 37 = .ok (.iload_n 1, 1) := by decide +kernel
theorem dX9_weigh_38 : decode cX9_weigh 38 = .ok (.iload_n 2, 1) := by decide +kernel
theorem dX9_weigh_39 : decode cX9_weigh 39 = .ok (.iastore, 1) := by decide +kernel
theorem dX9_weigh_40 : decode cX9_weigh 40 = .ok (.iconst 1, 1) := by decide +kernel
theorem dX9_weigh_41 : decode cX9_weigh 41 = .ok (.ireturn, 1) := by decide +kernel
theorem dX9_move_0 : decode cX9_move 0 = .ok (.aload_n 0, 1) := by decide +kernel
theorem dX9_move_1 : decode cX9_move 1 = .ok (.getfield 10, 3) := by decide +kernel
theorem dX9_move_4 : decode cX9_move 4 = .ok (.getfield 70, 3) := by decide +kernel
theorem dX9_move_7 : decode cX9_move 7 = .ok (.getfield 74, 3) := by decide +kernel
theorem dX9_move_10 : decode cX9_move 10 = .ok (.bipush 24, 2) := by decide +kernel
theorem dX9_move_12 : decode cX9_move 12 = .ok (.if_icmp .ge 16, 3) := by decide +kernel
theorem dX9_move_15 : decode cX9_move 15 = .ok (.aload_n 0, 1) := by decide +kernel
theorem dX9_move_16 : decode cX9_move 16 = .ok (.getfield 10, 3) := by decide +kernel
theorem dX9_move_19 : decode cX9_move 19 = .ok (.getfield 70, 3) := by decide +kernel
theorem dX9_move_22 : decode cX9_move 22 = .ok (.invokevirtual 77, 3) := by decide +kernel
theorem dX9_move_25 : decode cX9_move 25 = .ok (.goto 4, 3) := by decide +kernel
theorem dX9_move_28 : decode cX9_move 28 = .ok (.iconst (-1), 1) := by decide +kernel
theorem dX9_move_29 : decode cX9_move 29 = .ok (.ireturn, 1) := by decide +kernel
theorem dX9_when_0 : decode cX9_when 0 = .ok (.aload_n 0, 1) := by decide +kernel
theorem dX9_when_1 : decode cX9_when 1 = .ok (.getfield 10, 3) := by decide +kernel
theorem dX9_when_4 : decode cX9_when 4 = .ok (.getfield 70, 3) := by decide +kernel
theorem dX9_when_7 : decode cX9_when 7 = .ok (.iload_n 1, 1) := by decide +kernel
theorem dX9_when_8 : decode cX9_when 8 = .ok (.invokevirtual 80, 3) := by decide +kernel
theorem dX9_when_11 : decode cX9_when 11 = .ok (.ifCond .eq 32, 3) := by decide +kernel
theorem dX9_when_14 : decode cX9_when 14 = .ok (.aload_n 0, 1) := by decide +kernel
theorem dX9_when_15 : decode cX9_when 15 = .ok (.getfield 10, 3) := by decide +kernel
theorem dX9_when_18 : decode cX9_when 18 = .ok (.getfield 33, 3) := by decide +kernel
theorem dX9_when_21 : decode cX9_when 21 = .ok (.iload_n 2, 1) := by decide +kernel
theorem dX9_when_22 : decode cX9_when 22 = .ok (.invokevirtual 59, 3) := by decide +kernel
theorem dX9_when_25 : decode cX9_when 25 = .ok (.ifCond .eq 18, 3) := by decide +kernel
theorem dX9_when_28 : decode cX9_when 28 = .ok (.iload_n 3, 1) := by decide +kernel
theorem dX9_when_29 : decode cX9_when 29 = .ok (.invokestatic 81, 3) := by decide +kernel
theorem dX9_when_32 : decode cX9_when 32 = .ok (.ifCond .eq 11, 3) := by decide +kernel
theorem dX9_when_35 : decode cX9_when 35 = .ok (.iload 4, 2) := by decide +kernel
theorem dX9_when_37 : decode cX9_when 37 = .ok (.invokestatic 43, 3) := by decide +kernel
theorem dX9_when_40 : decode cX9_when 40 = .ok (.ifCond .ne 5, 3) := by decide +kernel
theorem dX9_when_43 : decode cX9_when 43 = .ok (.iconst 0, 1) := by decide +kernel
theorem dX9_when_44 : decode cX9_when 44 = .ok (.ireturn, 1) := by decide +kernel
theorem dX9_when_45 : decode cX9_when 45 = .ok (.aload_n 0, 1) := by decide +kernel
theorem dX9_when_46 : decode cX9_when 46 = .ok (.getfield 10, 3) := by decide +kernel
theorem dX9_when_49 : decode cX9_when 49 = .ok (.getfield 70, 3) := by decide +kernel
theorem dX9_when_52 : decode cX9_when 52 = .ok (.iload_n 1, 1) := by decide +kernel
theorem dX9_when_53 : decode cX9_when 53 = .ok (.iload_n 2, 1) := by decide +kernel
theorem dX9_when_54 : decode cX9_when 54 = .ok (.iload_n 3, 1) := by decide +kernel
theorem dX9_when_55 : decode cX9_when 55 = .ok (.iload 4, 2) := by decide +kernel
theorem dX9_when_57 : decode cX9_when 57 = .ok (.invokevirtual 84, 3) := by decide +kernel
theorem dX9_when_60 : decode cX9_when 60 = .ok (.ireturn, 1) := by decide +kernel
theorem dX9_then_0 : decode cX9_then 0 = .ok (.aload_n 0, 1) := by decide +kernel
theorem dX9_then_1 : decode cX9_then 1 = .ok (.getfield 10, 3) := by decide +kernel
theorem dX9_then_4 : decode cX9_then 4 = .ok (.getfield 70, 3) := by decide +kernel
theorem dX9_then_7 : decode cX9_then 7 = .ok (.iload_n 1, 1) := by decide +kernel
theorem dX9_then_8 : decode cX9_then 8 = .ok (.invokevirtual 80, 3) := by decide +kernel
theorem dX9_then_11 : decode cX9_then 11 = .ok (.ifCond .eq 36, 3) := by decide +kernel
theorem dX9_then_14 : decode cX9_then 14 = .ok (.aload_n 0, 1) := by decide +kernel
theorem dX9_then_15 : decode cX9_then 15 = .ok (.getfield 10, 3) := by decide +kernel
theorem dX9_then_18 : decode cX9_then 18 = .ok (.getfield 33, 3) := by decide +kernel
theorem dX9_then_21 : decode cX9_then 21 = .ok (.iload_n 3, 1) := by decide +kernel
theorem dX9_then_22 : decode cX9_then 22 = .ok (.invokevirtual 59, 3) := by decide +kernel
theorem dX9_then_25 : decode cX9_then 25 = .ok (.ifCond .eq 22, 3) := by decide +kernel
theorem dX9_then_28 : decode cX9_then 28 = .ok (.iload_n 2, 1) := by decide +kernel
theorem dX9_then_29 : decode cX9_then 29 = .ok (.iload 4, 2) := by decide +kernel
theorem dX9_then_31 : decode cX9_then 31 = .ok (.aload_n 0, 1) := by decide +kernel
theorem dX9_then_32 : decode cX9_then 32 = .ok (.getfield 10, 3) := by decide +kernel
theorem dX9_then_35 : decode cX9_then 35 = .ok (.getfield 33, 3) := by decide +kernel
theorem dX9_then_38 : decode cX9_then 38 = .ok (.getfield 37, 3) := by decide +kernel
theorem dX9_then_41 : decode cX9_then 41 = .ok (.invokestatic 88, 3) := by decide +kernel
theorem dX9_then_44 : decode cX9_then 44 = .ok (.ifCond .ne 5, 3) := by decide +kernel
theorem dX9_then_47 : decode cX9_then 47 = .ok (.iconst 0, 1) := by decide +kernel
theorem dX9_then_48 : decode cX9_then 48 = .ok (.ireturn, 1) := by decide +kernel
theorem dX9_then_49 : decode cX9_then 49 = .ok (.aload_n 0, 1) := by decide +kernel
theorem dX9_then_50 : decode cX9_then 50 = .ok (.getfield 10, 3) := by decide +kernel
theorem dX9_then_53 : decode cX9_then 53 = .ok (.getfield 70, 3) := by decide +kernel
theorem dX9_then_56 : decode cX9_then 56 = .ok (.iload_n 1, 1) := by decide +kernel
theorem dX9_then_57 : decode cX9_then 57 = .ok (.iload_n 2, 1) := by decide +kernel
theorem dX9_then_58 : decode cX9_then 58 = .ok (.iload_n 3, 1) := by decide +kernel
theorem dX9_then_59 : decode cX9_then 59 = .ok (.iload 4, 2) := by decide +kernel
theorem dX9_then_61 : decode cX9_then 61 = .ok (.invokevirtual 91, 3) := by decide +kernel
theorem dX9_then_64 : decode cX9_then 64 = .ok (.ireturn, 1) := by decide +kernel
theorem dX9_show_0 : decode cX9_show 0 = .ok (.aload_n 0, 1) := by decide +kernel
theorem dX9_show_1 : decode cX9_show 1 = .ok (.getfield 10, 3) := by decide +kernel
theorem dX9_show_4 : decode cX9_show 4 = .ok (.getfield 70, 3) := by decide +kernel
theorem dX9_show_7 : decode cX9_show 7 = .ok (.iload_n 1, 1) := by decide +kernel
theorem dX9_show_8 : decode cX9_show 8 = .ok (.invokevirtual 80, 3) := by decide +kernel
theorem dX9_show_11 : decode cX9_show 11 = .ok (.ifCond .eq 15, 3) := by decide +kernel
theorem dX9_show_14 : decode cX9_show 14 = .ok (.iload_n 2, 1) := by decide +kernel
theorem dX9_show_15 : decode cX9_show 15 = .ok (.iconst (-1), 1) := by decide +kernel
theorem dX9_show_16 : decode cX9_show 16 = .ok (.if_icmp .eq 12, 3) := by decide +kernel
theorem dX9_show_19 : decode cX9_show 19 = .ok (.iload_n 2, 1) := by decide +kernel
theorem dX9_show_20 : decode cX9_show 20 = .ok (.invokestatic 94, 3) := by decide +kernel
theorem dX9_show_23 : decode cX9_show 23 = .ok (.ifCond .ne 5, 3) := by decide +kernel
theorem dX9_show_26 : decode cX9_show 26 = .ok (.iconst 0, 1) := by decide +kernel
theorem dX9_show_27 : decode cX9_show 27 = .ok (.ireturn, 1) := by decide +kernel
theorem dX9_show_28 : decode cX9_show 28 = .ok (.aload_n 0, 1) := by decide +kernel
theorem dX9_show_29 : decode cX9_show 29 = .ok (.getfield 10, 3) := by decide +kernel
theorem dX9_show_32 : decode cX9_show 32 = .ok (.getfield 70, 3) := by decide +kernel
theorem dX9_show_35 : decode cX9_show 35 = .ok (.getfield 97, 3) := by decide +kernel
theorem dX9_show_38 : decode cX9_show 38 = .ok (.iload_n 1, 1) := by decide +kernel
theorem dX9_show_39 : decode cX9_show 39 = .ok (.iload_n 2, 1) := by decide +kernel
theorem dX9_show_40 : decode cX9_show 40 = .ok (.iastore, 1) := by decide +kernel
theorem dX9_show_41 : decode cX9_show 41 = .ok (.iconst 1, 1) := by decide +kernel
theorem dX9_show_42 : decode cX9_show 42 = .ok (.ireturn, 1) := by decide +kernel
theorem dX9_ends_0 : decode cX9_ends 0 = .ok (.aload_n 0, 1) := by decide +kernel
theorem dX9_ends_1 : decode cX9_ends 1 = .ok (.getfield 10, 3) := by decide +kernel
theorem dX9_ends_4 : decode cX9_ends 4 = .ok (.getfield 70, 3) := by decide +kernel
theorem dX9_ends_7 : decode cX9_ends 7 = .ok (.iload_n 1, 1) := by decide +kernel
theorem dX9_ends_8 : decode cX9_ends 8 = .ok (.invokevirtual 80, 3) := by decide +kernel
theorem dX9_ends_11 : decode cX9_ends 11 = .ok (.ifCond .eq 13, 3) := by decide +kernel
theorem dX9_ends_14 : decode cX9_ends 14 = .ok (.iload_n 2, 1) := by decide +kernel
theorem dX9_ends_15 : decode cX9_ends 15 = .ok (.iconst 0, 1) := by decide +kernel
theorem dX9_ends_16 : decode cX9_ends 16 = .ok (.bipush 9, 2) := by decide +kernel
theorem dX9_ends_18 : decode cX9_ends 18 = .ok (.invokestatic 62, 3) := by decide +kernel
theorem dX9_ends_21 : decode cX9_ends 21 = .ok (.ifCond .ne 5, 3) := by decide +kernel
theorem dX9_ends_24 : decode cX9_ends 24 = .ok (.iconst 0, 1) := by decide +kernel
theorem dX9_ends_25 : decode cX9_ends 25 = .ok (.ireturn, 1) := by decide +kernel
theorem dX9_ends_26 : decode cX9_ends 26 = .ok (.aload_n 0, 1) := by decide +kernel
theorem dX9_ends_27 : decode cX9_ends 27 = .ok (.getfield 10, 3) := by decide +kernel
theorem dX9_ends_30 : decode cX9_ends 30 = .ok (.getfield 70, 3) := by decide +kernel
theorem dX9_ends_33 : decode cX9_ends 33 = .ok (.getfield 100, 3) := by decide +kernel
theorem dX9_ends_36 : decode cX9_ends 36 = .ok (.iload_n 1, 1) := by decide +kernel
theorem dX9_ends_37 : decode cX9_ends 37 = .ok (.iload_n 2, 1) := by decide +kernel
theorem dX9_ends_38 : decode cX9_ends 38 = .ok (.iastore, 1) := by decide +kernel
theorem dX9_ends_39 : decode cX9_ends 39 = .ok (.iconst 1, 1) := by decide +kernel
theorem dX9_ends_40 : decode cX9_ends 40 = .ok (.ireturn, 1) := by decide +kernel
theorem dX9_of_0 : decode cX9_of 0 = .ok (.aload_n 0, 1) := by decide +kernel
theorem dX9_of_1 : decode cX9_of 1 = .ok (.getfield 10, 3) := by decide +kernel
theorem dX9_of_4 : decode cX9_of 4 = .ok (.getfield 70, 3) := by decide +kernel
theorem dX9_of_7 : decode cX9_of 7 = .ok (.iload_n 1, 1) := by decide +kernel
theorem dX9_of_8 : decode cX9_of 8 = .ok (.invokevirtual 80, 3) := by decide +kernel
theorem dX9_of_11 : decode cX9_of 11 = .ok (.ifCond .ne 5, 3) := by decide +kernel
theorem dX9_of_14 : decode cX9_of 14 = .ok (.iconst (-1), 1) := by decide +kernel
theorem dX9_of_15 : decode cX9_of 15 = .ok (.ireturn, 1) := by decide +kernel
theorem dX9_of_16 : decode cX9_of 16 = .ok (.aload_n 0, 1) := by decide +kernel
theorem dX9_of_17 : decode cX9_of 17 = .ok (.getfield 10, 3) := by decide +kernel
theorem dX9_of_20 : decode cX9_of 20 = .ok (.getfield 103, 3) := by decide +kernel
theorem dX9_of_23 : decode cX9_of 23 = .ok (.iload_n 1, 1) := by decide +kernel
theorem dX9_of_24 : decode cX9_of 24 = .ok (.invokevirtual 107, 3) := by decide +kernel
theorem dX9_of_27 : decode cX9_of 27 = .ok (.ireturn, 1) := by decide +kernel
theorem dX9_macro_0 : decode cX9_macro 0 = .ok (.aload_n 0, 1) := by decide +kernel
theorem dX9_macro_1 : decode cX9_macro 1 = .ok (.getfield 10, 3) := by decide +kernel
theorem dX9_macro_4 : decode cX9_macro 4 = .ok (.getfield 103, 3) := by decide +kernel
theorem dX9_macro_7 : decode cX9_macro 7 = .ok (.invokevirtual 113, 3) := by decide +kernel
theorem dX9_macro_10 : decode cX9_macro 10 = .ok (.ireturn, 1) := by decide +kernel
theorem dX9_goal_0 : decode cX9_goal 0 = .ok (.iload_n 1, 1) := by decide +kernel
theorem dX9_goal_1 : decode cX9_goal 1 = .ok (.iload_n 2, 1) := by decide +kernel
theorem dX9_goal_2 : decode cX9_goal 2 = .ok (.iload_n 3, 1) := by decide +kernel
theorem dX9_goal_3 : decode cX9_goal 3 = .ok (.aload_n 0, 1) := by decide +kernel
theorem dX9_goal_4 : decode cX9_goal 4 = .ok (.getfield 10, 3) := by decide +kernel
theorem dX9_goal_7 : decode cX9_goal 7 = .ok (.getfield 33, 3) := by decide +kernel
theorem dX9_goal_10 : decode cX9_goal 10 = .ok (.getfield 37, 3) := by decide +kernel
theorem dX9_goal_13 : decode cX9_goal 13 = .ok (.invokestatic 116, 3) := by decide +kernel
theorem dX9_goal_16 : decode cX9_goal 16 = .ok (.ifCond .ne 5, 3) := by decide +kernel
theorem dX9_goal_19 : decode cX9_goal 19 = .ok (.iconst (-1), 1) := by decide +kernel
theorem dX9_goal_20 : decode cX9_goal 20 = .ok (.ireturn, 1) := by decide +kernel
theorem dX9_goal_21 : decode cX9_goal 21 = .ok (.aload_n 0, 1) := by decide +kernel
theorem dX9_goal_22 : decode cX9_goal 22 = .ok (.getfield 10, 3) := by decide +kernel
theorem dX9_goal_25 : decode cX9_goal 25 = .ok (.getfield 121, 3) := by decide +kernel
theorem dX9_goal_28 : decode cX9_goal 28 = .ok (.iload_n 1, 1) := by decide +kernel
theorem dX9_goal_29 : decode cX9_goal 29 = .ok (.iload_n 2, 1) := by decide +kernel
theorem dX9_goal_30 : decode cX9_goal 30 = .ok (.iload_n 3, 1) := by decide +kernel
theorem dX9_goal_31 : decode cX9_goal 31 = .ok (.invokevirtual 125, 3) := by decide +kernel
theorem dX9_goal_34 : decode cX9_goal 34 = .ok (.ireturn, 1) := by decide +kernel
theorem dX9_clear_0 : decode cX9_clear 0 = .ok (.aload_n 0, 1) := by decide +kernel
theorem dX9_clear_1 : decode cX9_clear 1 = .ok (.getfield 10, 3) := by decide +kernel
theorem dX9_clear_4 : decode cX9_clear 4 = .ok (.getfield 121, 3) := by decide +kernel
theorem dX9_clear_7 : decode cX9_clear 7 = .ok (.getfield 128, 3) := by decide +kernel
theorem dX9_clear_10 : decode cX9_clear 10 = .ok (.istore_n 1, 1) := by decide +kernel
theorem dX9_clear_11 : decode cX9_clear 11 = .ok (.aload_n 0, 1) := by decide +kernel
theorem dX9_clear_12 : decode cX9_clear 12 = .ok (.getfield 10, 3) := by decide +kernel
theorem dX9_clear_15 : decode cX9_clear 15 = .ok (.getfield 121, 3) := by decide +kernel
theorem dX9_clear_18 : decode cX9_clear 18 = .ok (.iconst 0, 1) := by decide +kernel
theorem dX9_clear_19 : decode cX9_clear 19 = .ok (.putfield 128, 3) := by decide +kernel
theorem dX9_clear_22 : decode cX9_clear 22 = .ok (.iload_n 1, 1) := by decide +kernel
theorem dX9_clear_23 : decode cX9_clear 23 = .ok (.ireturn, 1) := by decide +kernel
theorem dX9_search_0 : decode cX9_search 0 = .ok (.iload_n 1, 1) := by decide +kernel
theorem dX9_search_1 : decode cX9_search 1 = .ok (.iconst 0, 1) := by decide +kernel
theorem dX9_search_2 : decode cX9_search 2 = .ok (.iconst 1, 1) := by decide +kernel
theorem dX9_search_3 : decode cX9_search 3 = .ok (.invokestatic 62, 3) := by decide +kernel
theorem dX9_search_6 : decode cX9_search 6 = .ok (.ifCond .eq 27, 3) := by decide +kernel
theorem dX9_search_9 : decode cX9_search 9 = .ok (.iload_n 2, 1) := by decide +kernel
theorem dX9_search_10 : decode cX9_search 10 = .ok (.iconst 1, 1) := by decide +kernel
theorem dX9_search_11 : decode cX9_search 11 = .ok (.sipush 1500, 3) := by decide +kernel
theorem dX9_search_14 : decode cX9_search 14 = .ok (.invokestatic 62, 3) := by decide +kernel
theorem dX9_search_17 : decode cX9_search 17 = .ok (.ifCond .eq 16, 3) := by decide +kernel
theorem dX9_search_20 : decode cX9_search 20 = .ok (.aload_n 0, 1) := by decide +kernel
theorem dX9_search_21 : decode cX9_search 21 = .ok (.getfield 10, 3) := by decide +kernel
theorem dX9_search_24 : decode cX9_search 24 = .ok (.getfield 121, 3) := by decide +kernel
theorem dX9_search_27 : decode cX9_search 27 = .ok (.getfield 128, 3) := by decide +kernel
theorem dX9_search_30 : decode cX9_search 30 = .ok (.ifCond .ne 6, 3) := by decide +kernel
theorem dX9_search_33 : decode cX9_search 33 = .ok (.bipush (-2), 2) := by decide +kernel
theorem dX9_search_35 : decode cX9_search 35 = .ok (.ireturn, 1) := by decide +kernel
theorem dX9_search_36 : decode cX9_search 36 = .ok (.aload_n 0, 1) := by decide +kernel
theorem dX9_search_37 : decode cX9_search 37 = .ok (.getfield 19, 3) := by decide +kernel
theorem dX9_search_40 : decode cX9_search 40 = .ok (.aload_n 0, 1) := by decide +kernel
theorem dX9_search_41 : decode cX9_search 41 = .ok (.getfield 10, 3) := by decide +kernel
theorem dX9_search_44 : decode cX9_search 44 = .ok (.iload_n 1, 1) := by decide +kernel
theorem dX9_search_45 : decode cX9_search 45 = .ok (.iconst 1, 1) := by decide +kernel
theorem dX9_search_46 : decode cX9_search 46 = .ok (.if_icmp .ne 7, 3) := by decide +kernel
theorem dX9_search_49 : decode cX9_search 49 = .ok (.iconst 1, 1) := by decide +kernel
theorem dX9_search_50 : decode cX9_search 50 = .ok (.goto 4, 3) := by decide +kernel
theorem dX9_search_53 : decode cX9_search 53 = .ok (.iconst 0, 1) := by decide +kernel
theorem dX9_search_54 : decode cX9_search 54 = .ok (.iload_n 2, 1) := by decide +kernel
theorem dX9_search_55 : decode cX9_search 55 = .ok (.invokevirtual 129, 3) := by decide +kernel
theorem dX9_search_58 : decode cX9_search 58 = .ok (.ireturn, 1) := by decide +kernel
theorem dX9_length_0 : decode cX9_length 0 = .ok (.aload_n 0, 1) := by decide +kernel
theorem dX9_length_1 : decode cX9_length 1 = .ok (.getfield 19, 3) := by decide +kernel
theorem dX9_length_4 : decode cX9_length 4 = .ok (.getfield 133, 3) := by decide +kernel
theorem dX9_length_7 : decode cX9_length 7 = .ok (.getfield 137, 3) := by decide +kernel
theorem dX9_length_10 : decode cX9_length 10 = .ok (.ireturn, 1) := by decide +kernel
theorem dX9_at_0 : decode cX9_at 0 = .ok (.aload_n 0, 1) := by decide +kernel
theorem dX9_at_1 : decode cX9_at 1 = .ok (.getfield 19, 3) := by decide +kernel
theorem dX9_at_4 : decode cX9_at 4 = .ok (.getfield 133, 3) := by decide +kernel
theorem dX9_at_7 : decode cX9_at 7 = .ok (.iload_n 1, 1) := by decide +kernel
theorem dX9_at_8 : decode cX9_at 8 = .ok (.invokevirtual 142, 3) := by decide +kernel
theorem dX9_at_11 : decode cX9_at 11 = .ok (.ireturn, 1) := by decide +kernel
theorem dX9_shortest_0 : decode cX9_shortest 0 = .ok (.aload_n 0, 1) := by decide +kernel
theorem dX9_shortest_1 : decode cX9_shortest 1 = .ok (.getfield 19, 3) := by decide +kernel
theorem dX9_shortest_4 : decode cX9_shortest 4 = .ok (.getfield 145, 3) := by decide +kernel
theorem dX9_shortest_7 : decode cX9_shortest 7 = .ok (.ireturn, 1) := by decide +kernel
theorem dX9_replays_0 : decode cX9_replays 0 = .ok (.aload_n 0, 1) := by decide +kernel
theorem dX9_replays_1 : decode cX9_replays 1 = .ok (.getfield 19, 3) := by decide +kernel
theorem dX9_replays_4 : decode cX9_replays 4 = .ok (.getfield 133, 3) := by decide +kernel
theorem dX9_replays_7 : decode cX9_replays 7 = .ok (.astore_n 1, 1) := by decide +kernel
theorem dX9_replays_8 : decode cX9_replays 8 = .ok (.aload_n 1, 1) := by decide +kernel
theorem dX9_replays_9 : decode cX9_replays 9 = .ok (.getfield 137, 3) := by decide +kernel
theorem dX9_replays_12 : decode cX9_replays 12 = .ok (.iconst (-1), 1) := by decide +kernel
theorem dX9_replays_13 : decode cX9_replays 13 = .ok (.if_icmp .eq 16, 3) := by decide +kernel
theorem dX9_replays_16 : decode cX9_replays 16 = .ok (.aload_n 0, 1) := by decide +kernel
theorem dX9_replays_17 : decode cX9_replays 17 = .ok (.getfield 10, 3) := by decide +kernel
theorem dX9_replays_20 : decode cX9_replays 20 = .ok (.getfield 121, 3) := by decide +kernel
theorem dX9_replays_23 : decode cX9_replays 23 = .ok (.getfield 128, 3) := by decide +kernel
theorem dX9_replays_26 : decode cX9_replays 26 = .ok (.ifCond .ne 5, 3) := by decide +kernel
theorem dX9_replays_29 : decode cX9_replays 29 = .ok (.iconst (-1), 1) := by decide +kernel
theorem dX9_replays_30 : decode cX9_replays 30 = .ok (.ireturn, 1) := by decide +kernel
theorem dX9_replays_31 : decode cX9_replays 31 = .ok (.aload_n 0, 1) := by decide +kernel
theorem dX9_replays_32 : decode cX9_replays 32 = .ok (.getfield 30, 3) := by decide +kernel
theorem dX9_replays_35 : decode cX9_replays 35 = .ok (.aload_n 0, 1) := by decide +kernel
theorem dX9_replays_36 : decode cX9_replays 36 = .ok (.getfield 10, 3) := by decide +kernel
theorem dX9_replays_39 : decode cX9_replays 39 = .ok (.getfield 33, 3) := by decide +kernel
theorem dX9_replays_42 : decode cX9_replays 42 = .ok (.getfield 149, 3) := by decide +kernel
theorem dX9_replays_45 : decode cX9_replays 45 = .ok (.invokevirtual 152, 3) := by decide +kernel
theorem dX9_replays_48 : decode cX9_replays 48 = .ok (.iconst 0, 1) := by decide +kernel
theorem dX9_replays_49 : decode cX9_replays 49 = .ok (.istore_n 2, 1) := by decide +kernel
theorem dX9_replays_50 : decode cX9_replays 50 = .ok (.iload_n 2, 1) := by decide +kernel
theorem dX9_replays_51 : decode cX9_replays 51 = .ok (.aload_n 1, 1) := by decide +kernel
theorem dX9_replays_52 : decode cX9_replays 52 = .ok (.getfield 137, 3) := by decide +kernel
theorem dX9_replays_55 : decode cX9_replays 55 = .ok (.if_icmp .ge 44, 3) := by decide +kernel
theorem dX9_replays_58 : decode cX9_replays 58 = .ok (.aload_n 0, 1) := by decide +kernel
theorem dX9_replays_59 : decode cX9_replays 59 = .ok (.getfield 10, 3) := by decide +kernel
theorem dX9_replays_62 : decode cX9_replays 62 = .ok (.aload_n 1, 1) := by decide +kernel
theorem dX9_replays_63 : decode cX9_replays 63 = .ok (.iload_n 2, 1) := by decide +kernel
theorem dX9_replays_64 : decode cX9_replays 64 = .ok (.invokevirtual 142, 3) := by decide +kernel
theorem dX9_replays_67 : decode cX9_replays 67 = .ok (.aload_n 0, 1) := by decide +kernel
theorem dX9_replays_68 : decode cX9_replays 68 = .ok (.getfield 30, 3) := by decide +kernel
theorem dX9_replays_71 : decode cX9_replays 71 = .ok (.invokevirtual 156, 3) := by decide +kernel
theorem dX9_replays_74 : decode cX9_replays 74 = .ok (.ifCond .ne 5, 3) := by decide +kernel
theorem dX9_replays_77 : decode cX9_replays 77 = .ok (.iconst 0, 1) := by decide +kernel
theorem dX9_replays_78 : decode cX9_replays 78 = .ok (.ireturn, 1) := by decide +kernel
theorem dX9_replays_79 : decode cX9_replays 79 = .ok (.aload_n 0, 1) := by decide +kernel
theorem dX9_replays_80 : decode cX9_replays 80 = .ok (.getfield 30, 3) := by decide +kernel
theorem dX9_replays_83 : decode cX9_replays 83 = .ok (.aload_n 0, 1) := by decide +kernel
theorem dX9_replays_84 : decode cX9_replays 84 = .ok (.getfield 10, 3) := by decide +kernel
theorem dX9_replays_87 : decode cX9_replays 87 = .ok (.getfield 160, 3) := by decide +kernel
theorem dX9_replays_90 : decode cX9_replays 90 = .ok (.invokevirtual 163, 3) := by decide +kernel
theorem dX9_replays_93 : decode cX9_replays 93 = .ok (.iinc 2 1, 3) := by decide +kernel
theorem dX9_replays_96 : decode cX9_replays 96 = .ok (.goto (-46), 3) := by decide +kernel
theorem dX9_replays_99 : decode cX9_replays 99 = .ok (.aload_n 0, 1) := by decide +kernel
theorem dX9_replays_100 : decode cX9_replays 100 = .ok (.getfield 10, 3) := by decide +kernel
theorem dX9_replays_103 : decode cX9_replays 103 = .ok (.aload_n 0, 1) := by decide +kernel
theorem dX9_replays_104 : decode cX9_replays 104 = .ok (.getfield 30, 3) := by decide +kernel
theorem dX9_replays_107 : decode cX9_replays 107 = .ok (.iconst 1, 1) := by decide +kernel
theorem dX9_replays_108 : decode cX9_replays 108 = .ok (.invokevirtual 167, 3) := by decide +kernel
theorem dX9_replays_111 : decode cX9_replays 111 = .ok (.ifCond .eq 7, 3) := by decide +kernel
theorem dX9_replays_114 : decode cX9_replays 114 = .ok (.iconst 1, 1) := by decide +kernel
theorem dX9_replays_115 : decode cX9_replays 115 = .ok (.goto 4, 3) := by decide +kernel
theorem dX9_replays_118 : decode cX9_replays 118 = .ok (.iconst 0, 1) := by decide +kernel
theorem dX9_replays_119 : decode cX9_replays 119 = .ok (.ireturn, 1) := by decide +kernel
theorem dX9_node_0 : decode cX9_node 0 = .ok (.aload_n 0, 1) := by decide +kernel
theorem dX9_node_1 : decode cX9_node 1 = .ok (.getfield 19, 3) := by decide +kernel
theorem dX9_node_4 : decode cX9_node 4 = .ok (.getfield 171, 3) := by decide +kernel
theorem dX9_node_7 : decode cX9_node 7 = .ok (.iload_n 1, 1) := by decide +kernel
theorem dX9_node_8 : decode cX9_node 8 = .ok (.invokevirtual 175, 3) := by decide +kernel
theorem dX9_node_11 : decode cX9_node 11 = .ok (.ifCond .eq 18, 3) := by decide +kernel
theorem dX9_node_14 : decode cX9_node 14 = .ok (.aload_n 0, 1) := by decide +kernel
theorem dX9_node_15 : decode cX9_node 15 = .ok (.getfield 19, 3) := by decide +kernel
theorem dX9_node_18 : decode cX9_node 18 = .ok (.getfield 171, 3) := by decide +kernel
theorem dX9_node_21 : decode cX9_node 21 = .ok (.iload_n 1, 1) := by decide +kernel
theorem dX9_node_22 : decode cX9_node 22 = .ok (.iload_n 2, 1) := by decide +kernel
theorem dX9_node_23 : decode cX9_node 23 = .ok (.invokevirtual 178, 3) := by decide +kernel
theorem dX9_node_26 : decode cX9_node 26 = .ok (.goto 4, 3) := by decide +kernel
theorem dX9_node_29 : decode cX9_node 29 = .ok (.iconst (-1), 1) := by decide +kernel
theorem dX9_node_30 : decode cX9_node 30 = .ok (.ireturn, 1) := by decide +kernel
theorem dX9_meet_0 : decode cX9_meet 0 = .ok (.aload_n 0, 1) := by decide +kernel
theorem dX9_meet_1 : decode cX9_meet 1 = .ok (.getfield 19, 3) := by decide +kernel
theorem dX9_meet_4 : decode cX9_meet 4 = .ok (.getfield 171, 3) := by decide +kernel
theorem dX9_meet_7 : decode cX9_meet 7 = .ok (.astore_n 3, 1) := by decide +kernel
theorem dX9_meet_8 : decode cX9_meet 8 = .ok (.aload_n 3, 1) := by decide +kernel
theorem dX9_meet_9 : decode cX9_meet 9 = .ok (.iload_n 1, 1) := by decide +kernel
theorem dX9_meet_10 : decode cX9_meet 10 = .ok (.invokevirtual 175, 3) := by decide +kernel
theorem dX9_meet_13 : decode cX9_meet 13 = .ok (.ifCond .eq 11, 3) := by decide +kernel
theorem dX9_meet_16 : decode cX9_meet 16 = .ok (.aload_n 3, 1) := by decide +kernel
theorem dX9_meet_17 : decode cX9_meet 17 = .ok (.iload_n 2, 1) := by decide +kernel
theorem dX9_meet_18 : decode cX9_meet 18 = .ok (.invokevirtual 175, 3) := by decide +kernel
theorem dX9_meet_21 : decode cX9_meet 21 = .ok (.ifCond .ne 5, 3) := by decide +kernel
theorem dX9_meet_24 : decode cX9_meet 24 = .ok (.iconst (-1), 1) := by decide +kernel
theorem dX9_meet_25 : decode cX9_meet 25 = .ok (.ireturn, 1) := by decide +kernel
theorem dX9_meet_26 : decode cX9_meet 26 = .ok (.aload_n 3, 1) := by decide +kernel
theorem dX9_meet_27 : decode cX9_meet 27 = .ok (.getfield 182, 3) := by decide +kernel
theorem dX9_meet_30 : decode cX9_meet 30 = .ok (.iload_n 1, 1) := by decide +kernel
theorem dX9_meet_31 : decode cX9_meet 31 = .ok (.laload, 1) := by decide +kernel
theorem dX9_meet_32 : decode cX9_meet 32 = .ok (.aload_n 3, 1) := by decide +kernel
theorem dX9_meet_33 : decode cX9_meet 33 = .ok (.getfield 182, 3) := by decide +kernel
theorem dX9_meet_36 : decode cX9_meet 36 = .ok (.iload_n 2, 1) := by decide +kernel
theorem dX9_meet_37 : decode cX9_meet 37 = .ok (.laload, 1) := by decide +kernel
theorem dX9_meet_38 : decode cX9_meet 38 = .ok (.lcmp, 1) := by decide +kernel
theorem dX9_meet_39 : decode cX9_meet 39 = .ok (.ifCond .ne 7, 3) := by decide +kernel
theorem dX9_meet_42 : decode cX9_meet 42 = .ok (.iconst 1, 1) := by decide +kernel
theorem dX9_meet_43 : decode cX9_meet 43 = .ok (.goto 4, 3) := by decide +kernel
theorem dX9_meet_46 : decode cX9_meet 46 = .ok (.iconst 0, 1) := by decide +kernel
theorem dX9_meet_47 : decode cX9_meet 47 = .ok (.ireturn, 1) := by decide +kernel
theorem dX9_seen_0 : decode cX9_seen 0 = .ok (.iload_n 1, 1) := by decide +kernel
theorem dX9_seen_1 : decode cX9_seen 1 = .ok (.invokestatic 94, 3) := by decide +kernel
theorem dX9_seen_4 : decode cX9_seen 4 = .ok (.ifCond .eq 21, 3) := by decide +kernel
theorem dX9_seen_7 : decode cX9_seen 7 = .ok (.aload_n 0, 1) := by decide +kernel
theorem dX9_seen_8 : decode cX9_seen 8 = .ok (.getfield 19, 3) := by decide +kernel
theorem dX9_seen_11 : decode cX9_seen 11 = .ok (.getfield 186, 3) := by decide +kernel
theorem dX9_seen_14 : decode cX9_seen 14 = .ok (.iload_n 1, 1) := by decide +kernel
theorem dX9_seen_15 : decode cX9_seen 15 = .ok (.invokestatic 189, 3) := by decide +kernel
theorem dX9_seen_18 : decode cX9_seen 18 = .ok (.ifCond .eq 7, 3) := by decide +kernel
theorem dX9_seen_21 : decode cX9_seen 21 = .ok (.iconst 1, 1) := by decide +kernel
theorem dX9_seen_22 : decode cX9_seen 22 = .ok (.goto 4, 3) := by decide +kernel
theorem dX9_seen_25 : decode cX9_seen 25 = .ok (.iconst 0, 1) := by decide +kernel
theorem dX9_seen_26 : decode cX9_seen 26 = .ok (.ireturn, 1) := by decide +kernel
theorem dX9_never_0 : decode cX9_never 0 = .ok (.aload_n 0, 1) := by decide +kernel
theorem dX9_never_1 : decode cX9_never 1 = .ok (.getfield 19, 3) := by decide +kernel
theorem dX9_never_4 : decode cX9_never 4 = .ok (.getfield 193, 3) := by decide +kernel
theorem dX9_never_7 : decode cX9_never 7 = .ok (.aload_n 0, 1) := by decide +kernel
theorem dX9_never_8 : decode cX9_never 8 = .ok (.getfield 19, 3) := by decide +kernel
theorem dX9_never_11 : decode cX9_never 11 = .ok (.getfield 186, 3) := by decide +kernel
theorem dX9_never_14 : decode cX9_never 14 = .ok (.iconst (-1), 1) := by decide +kernel
theorem dX9_never_15 : decode cX9_never 15 = .ok (.ixor, 1) := by decide +kernel
theorem dX9_never_16 : decode cX9_never 16 = .ok (.iand, 1) := by decide +kernel
theorem dX9_never_17 : decode cX9_never 17 = .ok (.istore_n 2, 1) := by decide +kernel
theorem dX9_never_18 : decode cX9_never 18 = .ok (.iload_n 1, 1) := by decide +kernel
theorem dX9_never_19 : decode cX9_never 19 = .ok (.istore_n 3, 1) := by decide +kernel
theorem dX9_never_20 : decode cX9_never 20 = .ok (.iconst 0, 1) := by decide +kernel
theorem dX9_never_21 : decode cX9_never 21 = .ok (.istore 4, 2) := by decide +kernel
theorem dX9_never_23 : decode cX9_never 23 = .ok (.iload 4, 2) := by decide +kernel
theorem dX9_never_25 : decode cX9_never 25 = .ok (.bipush 32, 2) := by decide +kernel
theorem dX9_never_27 : decode cX9_never 27 = .ok (.if_icmp .ge 28, 3) := by decide +kernel
theorem dX9_never_30 : decode cX9_never 30 = .ok (.iload_n 2, 1) := by decide +kernel
theorem dX9_never_31 : decode cX9_never 31 = .ok (.iload 4, 2) := by decide +kernel
theorem dX9_never_33 : decode cX9_never 33 = .ok (.invokestatic 189, 3) := by decide +kernel
theorem dX9_never_36 : decode cX9_never 36 = .ok (.ifCond .eq 13, 3) := by decide +kernel
theorem dX9_never_39 : decode cX9_never 39 = .ok (.iload_n 3, 1) := by decide +kernel
theorem dX9_never_40 : decode cX9_never 40 = .ok (.ifCond .ne 6, 3) := by decide +kernel
theorem dX9_never_43 : decode cX9_never 43 = .ok (.iload 4, 2) := by decide +kernel
theorem dX9_never_45 : decode cX9_never 45 = .ok (.ireturn, 1) := by decide +kernel
theorem dX9_never_46 : decode cX9_never 46 = .ok (.iinc 3 (-1), 3) := by decide +kernel
theorem dX9_never_49 : decode cX9_never 49 = .ok (.iinc 4 1, 3) := by decide +kernel
theorem dX9_never_52 : decode cX9_never 52 = .ok (.goto (-29), 3) := by decide +kernel
theorem dX9_never_55 : decode cX9_never 55 = .ok (.iconst (-1), 1) := by decide +kernel
theorem dX9_never_56 : decode cX9_never 56 = .ok (.ireturn, 1) := by decide +kernel
theorem dX9_queue_0 : decode cX9_queue 0 = .ok (.iload_n 1, 1) := by decide +kernel
theorem dX9_queue_1 : decode cX9_queue 1 = .ok (.iconst 0, 1) := by decide +kernel
theorem dX9_queue_2 : decode cX9_queue 2 = .ok (.aload_n 0, 1) := by decide +kernel
theorem dX9_queue_3 : decode cX9_queue 3 = .ok (.getfield 19, 3) := by decide +kernel
theorem dX9_queue_6 : decode cX9_queue 6 = .ok (.getfield 196, 3) := by decide +kernel
theorem dX9_queue_9 : decode cX9_queue 9 = .ok (.iconst 1, 1) := by decide +kernel
theorem dX9_queue_10 : decode cX9_queue 10 = .ok (.isub, 1) := by decide +kernel
theorem dX9_queue_11 : decode cX9_queue 11 = .ok (.invokestatic 62, 3) := by decide +kernel
theorem dX9_queue_14 : decode cX9_queue 14 = .ok (.ifCond .ne 13, 3) := by decide +kernel
theorem dX9_queue_17 : decode cX9_queue 17 = .ok (.new 199, 3) := by decide +kernel
theorem dX9_queue_20 : decode cX9_queue 20 = .ok (.dup, 1) := by decide +kernel
theorem dX9_queue_21 : decode cX9_queue 21 = .ok (.ldc 201, 2) := by decide +kernel
theorem dX9_queue_23 : decode cX9_queue 23 = .ok (.invokespecial 203, 3) := by decide +kernel
theorem dX9_queue_26 : decode cX9_queue 26 = .ok (.athrow, 1) := by decide +kernel
theorem dX9_queue_27 : decode cX9_queue 27 = .ok (.aload_n 0, 1) := by decide +kernel
theorem dX9_queue_28 : decode cX9_queue 28 = .ok (.getfield 19, 3) := by decide +kernel
theorem dX9_queue_31 : decode cX9_queue 31 = .ok (.getfield 206, 3) := by decide +kernel
theorem dX9_queue_34 : decode cX9_queue 34 = .ok (.iload_n 1, 1) := by decide +kernel
theorem dX9_queue_35 : decode cX9_queue 35 = .ok (.iaload, 1) := by decide +kernel
theorem dX9_queue_36 : decode cX9_queue 36 = .ok (.ireturn, 1) := by decide +kernel
theorem dX9_begin_0 : decode cX9_begin 0 = .ok (.aload_n 0, 1) := by decide +kernel
theorem dX9_begin_1 : decode cX9_begin 1 = .ok (.getfield 26, 3) := by decide +kernel
theorem dX9_begin_4 : decode cX9_begin 4 = .ok (.aload_n 0, 1) := by decide +kernel
theorem dX9_begin_5 : decode cX9_begin 5 = .ok (.getfield 10, 3) := by decide +kernel
theorem dX9_begin_8 : decode cX9_begin 8 = .ok (.getfield 33, 3) := by decide +kernel
theorem dX9_begin_11 : decode cX9_begin 11 = .ok (.getfield 149, 3) := by decide +kernel
theorem dX9_begin_14 : decode cX9_begin 14 = .ok (.invokevirtual 152, 3) := by decide +kernel
theorem dX9_begin_17 : decode cX9_begin 17 = .ok (.return_, 1) := by decide +kernel
theorem dX9_step_0 : decode cX9_step 0 = .ok (.aload_n 0, 1) := by decide +kernel
theorem dX9_step_1 : decode cX9_step 1 = .ok (.getfield 10, 3) := by decide +kernel
theorem dX9_step_4 : decode cX9_step 4 = .ok (.iload_n 1, 1) := by decide +kernel
theorem dX9_step_5 : decode cX9_step 5 = .ok (.invokevirtual 209, 3) := by decide +kernel
theorem dX9_step_8 : decode cX9_step 8 = .ok (.ifCond .ne 5, 3) := by decide +kernel
theorem dX9_step_11 : decode cX9_step 11 = .ok (.iconst (-1), 1) := by decide +kernel
theorem dX9_step_12 : decode cX9_step 12 = .ok (.ireturn, 1) := by decide +kernel
theorem dX9_step_13 : decode cX9_step 13 = .ok (.aload_n 0, 1) := by decide +kernel
theorem dX9_step_14 : decode cX9_step 14 = .ok (.getfield 10, 3) := by decide +kernel
theorem dX9_step_17 : decode cX9_step 17 = .ok (.iload_n 1, 1) := by decide +kernel
theorem dX9_step_18 : decode cX9_step 18 = .ok (.aload_n 0, 1) := by decide +kernel
theorem dX9_step_19 : decode cX9_step 19 = .ok (.getfield 26, 3) := by decide +kernel
theorem dX9_step_22 : decode cX9_step 22 = .ok (.invokevirtual 156, 3) := by decide +kernel
theorem dX9_step_25 : decode cX9_step 25 = .ok (.ifCond .ne 5, 3) := by decide +kernel
theorem dX9_step_28 : decode cX9_step 28 = .ok (.iconst 0, 1) := by decide +kernel
theorem dX9_step_29 : decode cX9_step 29 = .ok (.ireturn, 1) := by decide +kernel
theorem dX9_step_30 : decode cX9_step 30 = .ok (.aload_n 0, 1) := by decide +kernel
theorem dX9_step_31 : decode cX9_step 31 = .ok (.getfield 26, 3) := by decide +kernel
theorem dX9_step_34 : decode cX9_step 34 = .ok (.aload_n 0, 1) := by decide +kernel
theorem dX9_step_35 : decode cX9_step 35 = .ok (.getfield 10, 3) := by decide +kernel
theorem dX9_step_38 : decode cX9_step 38 = .ok (.getfield 160, 3) := by decide +kernel
theorem dX9_step_41 : decode cX9_step 41 = .ok (.invokevirtual 163, 3) := by decide +kernel
theorem dX9_step_44 : decode cX9_step 44 = .ok (.iconst 1, 1) := by decide +kernel
theorem dX9_step_45 : decode cX9_step 45 = .ok (.ireturn, 1) := by decide +kernel
theorem dX9_now_0 : decode cX9_now 0 = .ok (.iload_n 1, 1) := by decide +kernel
theorem dX9_now_1 : decode cX9_now 1 = .ok (.tableswitch 103 0 3 #[31, 49, 57, 69], 31) := by decide +kernel
theorem dX9_now_32 : decode cX9_now 32 = .ok (.aload_n 0, 1) := by decide +kernel
theorem dX9_now_33 : decode cX9_now 33 = .ok (.getfield 10, 3) := by decide +kernel
theorem dX9_now_36 : decode cX9_now 36 = .ok (.getfield 33, 3) := by decide +kernel
theorem dX9_now_39 : decode cX9_now 39 = .ok (.aload_n 0, 1) := by decide +kernel
theorem dX9_now_40 : decode cX9_now 40 = .ok (.getfield 26, 3) := by decide +kernel
theorem dX9_now_43 : decode cX9_now 43 = .ok (.getfield 51, 3) := by decide +kernel
theorem dX9_now_46 : decode cX9_now 46 = .ok (.invokevirtual 212, 3) := by decide +kernel
theorem dX9_now_49 : decode cX9_now 49 = .ok (.ireturn, 1) := by decide +kernel
theorem dX9_now_50 : decode cX9_now 50 = .ok (.aload_n 0, 1) := by decide +kernel
theorem dX9_now_51 : decode cX9_now 51 = .ok (.getfield 26, 3) := by decide +kernel
theorem dX9_now_54 : decode cX9_now 54 = .ok (.getfield 216, 3) := by decide +kernel
theorem dX9_now_57 : decode cX9_now 57 = .ok (.ireturn, 1) := by decide +kernel
theorem dX9_now_58 : decode cX9_now 58 = .ok (.aload_n 0, 1) := by decide +kernel
theorem dX9_now_59 : decode cX9_now 59 = .ok (.getfield 10, 3) := by decide +kernel
theorem dX9_now_62 : decode cX9_now 62 = .ok (.aload_n 0, 1) := by decide +kernel
theorem dX9_now_63 : decode cX9_now 63 = .ok (.getfield 26, 3) := by decide +kernel
theorem dX9_now_66 : decode cX9_now 66 = .ok (.invokevirtual 219, 3) := by decide +kernel
theorem dX9_now_69 : decode cX9_now 69 = .ok (.ireturn, 1) := by decide +kernel
theorem dX9_now_70 : decode cX9_now 70 = .ok (.aload_n 0, 1) := by decide +kernel
theorem dX9_now_71 : decode cX9_now 71 = .ok (.getfield 10, 3) := by decide +kernel
theorem dX9_now_74 : decode cX9_now 74 = .ok (.getfield 121, 3) := by decide +kernel
theorem dX9_now_77 : decode cX9_now 77 = .ok (.getfield 128, 3) := by decide +kernel
theorem dX9_now_80 : decode cX9_now 80 = .ok (.ifCond .le 22, 3) := by decide +kernel
theorem dX9_now_83 : decode cX9_now 83 = .ok (.aload_n 0, 1) := by decide +kernel
theorem dX9_now_84 : decode cX9_now 84 = .ok (.getfield 10, 3) := by decide +kernel
theorem dX9_now_87 : decode cX9_now 87 = .ok (.aload_n 0, 1) := by decide +kernel
theorem dX9_now_88 : decode cX9_now 88 = .ok (.getfield 26, 3) := by decide +kernel
theorem dX9_now_91 : decode cX9_now 91 = .ok (.iconst 0, 1) := by decide +kernel
theorem dX9_now_92 : decode cX9_now 92 = .ok (.invokevirtual 167, 3) := by decide +kernel
theorem dX9_now_95 : decode cX9_now 95 = .ok (.ifCond .eq 7, 3) := by decide +kernel
theorem dX9_now_98 : decode cX9_now 98 = .ok (.iconst 1, 1) := by decide +kernel
theorem dX9_now_99 : decode cX9_now 99 = .ok (.goto 4, 3) := by decide +kernel
theorem dX9_now_102 : decode cX9_now 102 = .ok (.iconst 0, 1) := by decide +kernel
theorem dX9_now_103 : decode cX9_now 103 = .ok (.ireturn, 1) := by decide +kernel
theorem dX9_now_104 : decode cX9_now 104 = .ok (.aload_n 0, 1) := by decide +kernel
theorem dX9_now_105 : decode cX9_now 105 = .ok (.getfield 26, 3) := by decide +kernel
theorem dX9_now_108 : decode cX9_now 108 = .ok (.getfield 51, 3) := by decide +kernel
theorem dX9_now_111 : decode cX9_now 111 = .ok (.iload_n 1, 1) := by decide +kernel
theorem dX9_now_112 : decode cX9_now 112 = .ok (.aload_n 0, 1) := by decide +kernel
theorem dX9_now_113 : decode cX9_now 113 = .ok (.getfield 10, 3) := by decide +kernel
theorem dX9_now_116 : decode cX9_now 116 = .ok (.getfield 33, 3) := by decide +kernel
theorem dX9_now_119 : decode cX9_now 119 = .ok (.getfield 37, 3) := by decide +kernel
theorem dX9_now_122 : decode cX9_now 122 = .ok (.invokestatic 223, 3) := by decide +kernel
theorem dX9_now_125 : decode cX9_now 125 = .ok (.ireturn, 1) := by decide +kernel
theorem dX9_told_0 : decode cX9_told 0 = .ok (.iload_n 1, 1) := by decide +kernel
theorem dX9_told_1 : decode cX9_told 1 = .ok (.tableswitch 132 0 7 #[47, 58, 69, 80, 91, 102, 113, 121], 47) := by decide +kernel
theorem dX9_told_48 : decode cX9_told 48 = .ok (.aload_n 0, 1) := by decide +kernel
theorem dX9_told_49 : decode cX9_told 49 = .ok (.getfield 10, 3) := by decide +kernel
theorem dX9_told_52 : decode cX9_told 52 = .ok (.getfield 33, 3) := by decide +kernel
theorem dX9_told_55 : decode cX9_told 55 = .ok (.getfield 37, 3) := by decide +kernel
theorem dX9_told_58 : decode cX9_told 58 = .ok (.ireturn, 1) := by decide +kernel
theorem dX9_told_59 : decode cX9_told 59 = .ok (.aload_n 0, 1) := by decide +kernel
theorem dX9_told_60 : decode cX9_told 60 = .ok (.getfield 10, 3) := by decide +kernel
theorem dX9_told_63 : decode cX9_told 63 = .ok (.getfield 70, 3) := by decide +kernel
theorem dX9_told_66 : decode cX9_told 66 = .ok (.getfield 74, 3) := by decide +kernel
theorem dX9_told_69 : decode cX9_told 69 = .ok (.ireturn, 1) := by decide +kernel
theorem dX9_told_70 : decode cX9_told 70 = .ok (.aload_n 0, 1) := by decide +kernel
theorem dX9_told_71 : decode cX9_told 71 = .ok (.getfield 10, 3) := by decide +kernel
theorem dX9_told_74 : decode cX9_told 74 = .ok (.getfield 103, 3) := by decide +kernel
theorem dX9_told_77 : decode cX9_told 77 = .ok (.getfield 227, 3) := by decide +kernel
theorem dX9_told_80 : decode cX9_told 80 = .ok (.ireturn, 1) := by decide +kernel
theorem dX9_told_81 : decode cX9_told 81 = .ok (.aload_n 0, 1) := by decide +kernel
theorem dX9_told_82 : decode cX9_told 82 = .ok (.getfield 10, 3) := by decide +kernel
theorem dX9_told_85 : decode cX9_told 85 = .ok (.getfield 121, 3) := by decide +kernel
theorem dX9_told_88 : decode cX9_told 88 = .ok (.getfield 128, 3) := by decide +kernel
theorem dX9_told_91 : decode cX9_told 91 = .ok (.ireturn, 1) := by decide +kernel
theorem dX9_told_92 : decode cX9_told 92 = .ok (.aload_n 0, 1) := by decide +kernel
theorem dX9_told_93 : decode cX9_told 93 = .ok (.getfield 10, 3) := by decide +kernel
theorem dX9_told_96 : decode cX9_told 96 = .ok (.getfield 103, 3) := by decide +kernel
theorem dX9_told_99 : decode cX9_told 99 = .ok (.getfield 228, 3) := by decide +kernel
theorem dX9_told_102 : decode cX9_told 102 = .ok (.ireturn, 1) := by decide +kernel
theorem dX9_told_103 : decode cX9_told 103 = .ok (.aload_n 0, 1) := by decide +kernel
theorem dX9_told_104 : decode cX9_told 104 = .ok (.getfield 19, 3) := by decide +kernel
theorem dX9_told_107 : decode cX9_told 107 = .ok (.getfield 171, 3) := by decide +kernel
theorem dX9_told_110 : decode cX9_told 110 = .ok (.getfield 231, 3) := by decide +kernel
theorem dX9_told_113 : decode cX9_told 113 = .ok (.ireturn, 1) := by decide +kernel
theorem dX9_told_114 : decode cX9_told 114 = .ok (.aload_n 0, 1) := by decide +kernel
theorem dX9_told_115 : decode cX9_told 115 = .ok (.getfield 19, 3) := by decide +kernel
theorem dX9_told_118 : decode cX9_told 118 = .ok (.getfield 196, 3) := by decide +kernel
theorem dX9_told_121 : decode cX9_told 121 = .ok (.ireturn, 1) := by decide +kernel
theorem dX9_told_122 : decode cX9_told 122 = .ok (.aload_n 0, 1) := by decide +kernel
theorem dX9_told_123 : decode cX9_told 123 = .ok (.getfield 19, 3) := by decide +kernel
theorem dX9_told_126 : decode cX9_told 126 = .ok (.getfield 171, 3) := by decide +kernel
theorem dX9_told_129 : decode cX9_told 129 = .ok (.getfield 232, 3) := by decide +kernel
theorem dX9_told_132 : decode cX9_told 132 = .ok (.ireturn, 1) := by decide +kernel
theorem dX9_told_133 : decode cX9_told 133 = .ok (.iconst (-1), 1) := by decide +kernel
theorem dX9_told_134 : decode cX9_told 134 = .ok (.ireturn, 1) := by decide +kernel
