theorem dX7_init_0 : decode cX7_init 0 = .ok (.aload_n 0, 1) := by decide +kernel
theorem dX7_init_1 : decode cX7_init 1 = .ok (.invokespecial 3, 3) := by decide +kernel
theorem dX7_init_4 : decode cX7_init 4 = .ok (.aload_n 0, 1) := by decide +kernel
theorem dX7_init_5 : decode cX7_init 5 = .ok (.new 9, 3) := by decide +kernel
theorem dX7_init_8 : decode cX7_init 8 = .ok (.dup, 1) := by decide +kernel
theorem dX7_init_9 : decode cX7_init 9 = .ok (.invokespecial 11, 3) := by decide +kernel
theorem dX7_init_12 : decode cX7_init 12 = .ok (.putfield 12, 3) := by decide +kernel
theorem dX7_init_15 : decode cX7_init 15 = .ok (.aload_n 0, 1) := by decide +kernel
theorem dX7_init_16 : decode cX7_init 16 = .ok (.new 16, 3) := by decide +kernel
theorem dX7_init_19 : decode cX7_init 19 = .ok (.dup, 1) := by decide +kernel
theorem dX7_init_20 : decode cX7_init 20 = .ok (.invokespecial 18, 3) := by decide +kernel
theorem dX7_init_23 : decode cX7_init 23 = .ok (.putfield 19, 3) := by decide +kernel
theorem dX7_init_26 : decode cX7_init 26 = .ok (.aload_n 0, 1) := by decide +kernel
theorem dX7_init_27 : decode cX7_init 27 = .ok (.new 23, 3) := by decide +kernel
theorem dX7_init_30 : decode cX7_init 30 = .ok (.dup, 1) := by decide +kernel
theorem dX7_init_31 : decode cX7_init 31 = .ok (.invokespecial 25, 3) := by decide +kernel
theorem dX7_init_34 : decode cX7_init 34 = .ok (.putfield 26, 3) := by decide +kernel
theorem dX7_init_37 : decode cX7_init 37 = .ok (.aload_n 0, 1) := by decide +kernel
theorem dX7_init_38 : decode cX7_init 38 = .ok (.new 30, 3) := by decide +kernel
theorem dX7_init_41 : decode cX7_init 41 = .ok (.dup, 1) := by decide +kernel
theorem dX7_init_42 : decode cX7_init 42 = .ok (.invokespecial 32, 3) := by decide +kernel
theorem dX7_init_45 : decode cX7_init 45 = .ok (.putfield 33, 3) := by decide +kernel
theorem dX7_init_48 : decode cX7_init 48 = .ok (.aload_n 0, 1) := by decide +kernel
theorem dX7_init_49 : decode cX7_init 49 = .ok (.new 30, 3) := by decide +kernel
theorem dX7_init_52 : decode cX7_init 52 = .ok (.dup, 1) := by decide +kernel
theorem dX7_init_53 : decode cX7_init 53 = .ok (.invokespecial 32, 3) := by decide +kernel
theorem dX7_init_56 : decode cX7_init 56 = .ok (.putfield 37, 3) := by decide +kernel
theorem dX7_init_59 : decode cX7_init 59 = .ok (.aload_n 0, 1) := by decide +kernel
theorem dX7_init_60 : decode cX7_init 60 = .ok (.new 40, 3) := by decide +kernel
theorem dX7_init_63 : decode cX7_init 63 = .ok (.dup, 1) := by decide +kernel
theorem dX7_init_64 : decode cX7_init 64 = .ok (.invokespecial 42, 3) := by decide +kernel
theorem dX7_init_67 : decode cX7_init 67 = .ok (.putfield 43, 3) := by decide +kernel
theorem dX7_init_70 : decode cX7_init 70 = .ok (.aload_n 0, 1) := by decide +kernel
theorem dX7_init_71 : decode cX7_init 71 = .ok (.iconst 0, 1) := by decide +kernel
theorem dX7_init_72 : decode cX7_init 72 = .ok (.putfield 47, 3) := by decide +kernel
theorem dX7_init_75 : decode cX7_init 75 = .ok (.aload_n 0, 1) := by decide +kernel
theorem dX7_init_76 : decode cX7_init 76 = .ok (.invokevirtual 51, 3) := by decide +kernel
theorem dX7_init_79 : decode cX7_init 79 = .ok (.return_, 1) := by decide +kernel
theorem dX7_feed_0 : decode cX7_feed 0 = .ok (.iload_n 1, 1) := by decide +kernel
theorem dX7_feed_1 : decode cX7_feed 1 = .ok (.ifCond .lt 10, 3) := by decide +kernel
theorem dX7_feed_4 : decode cX7_feed 4 = .ok (.iload_n 1, 1) := by decide +kernel
theorem dX7_feed_5 : decode cX7_feed 5 = .ok (.sipush 255, 3) := by decide +kernel
theorem dX7_feed_8 : decode cX7_feed 8 = .ok (.if_icmp .le 5, 3) := by decide +kernel
theorem dX7_feed_11 : decode cX7_feed 11 = .ok (.iconst 0, 1) := by decide +kernel
theorem dX7_feed_12 : decode cX7_feed 12 = .ok (.ireturn, 1) := by decide +kernel
theorem dX7_feed_13 : decode cX7_feed 13 = .ok (.aload_n 0, 1) := by decide +kernel
theorem dX7_feed_14 : decode cX7_feed 14 = .ok (.iload_n 1, 1) := by decide +kernel
theorem dX7_feed_15 : decode cX7_feed 15 = .ok (.invokevirtual 54, 3) := by decide +kernel
theorem dX7_feed_18 : decode cX7_feed 18 = .ok (.iconst 1, 1) := by decide +kernel
theorem dX7_feed_19 : decode cX7_feed 19 = .ok (.ireturn, 1) := by decide +kernel
theorem dX7_feedAll_0 : decode cX7_feedAll 0 = .ok (.iconst 0, 1) := by decide +kernel
theorem dX7_feedAll_1 : decode cX7_feedAll 1 = .ok (.istore_n 3, 1) := by decide +kernel
theorem dX7_feedAll_2 : decode cX7_feedAll 2 = .ok (.iconst 0, 1) := by decide +kernel
theorem dX7_feedAll_3 : decode cX7_feedAll 3 = .ok (.istore 4, 2) := by decide +kernel
theorem dX7_feedAll_5 : decode cX7_feedAll 5 = .ok (.iload 4, 2) := by decide +kernel
theorem dX7_feedAll_7 : decode cX7_feedAll 7 = .ok (.bipush 8, 2) := by decide +kernel
theorem dX7_feedAll_9 : decode cX7_feedAll 9 = .ok (.if_icmp .ge 39, 3) := by decide +kernel
theorem dX7_feedAll_12 : decode cX7_feedAll 12 = .ok (.lload_n 1, 1) := by decide +kernel
theorem dX7_feedAll_13 : decode cX7_feedAll 13 = .ok (.bipush 8, 2) := by decide +kernel
theorem dX7_feedAll_15 : decode cX7_feedAll 15 = .ok (.iload 4, 2) := by decide +kernel
theorem dX7_feedAll_17 : decode cX7_feedAll 17 = .ok (.imul, 1) := by decide +kernel
theorem dX7_feedAll_18 : decode cX7_feedAll 18 = .ok (.lushr, 1) := by decide +kernel
theorem dX7_feedAll_19 : decode cX7_feedAll 19 = .ok (.l2i, 1) := by decide +kernel
theorem dX7_feedAll_20 : decode cX7_feedAll 20 = .ok (.sipush 255, 3) := by decide +kernel
theorem dX7_feedAll_23 : decode cX7_feedAll 23 = .ok (.iand, 1) := by decide +kernel
theorem dX7_feedAll_24 : decode cX7_feedAll 24 = .ok (.istore 5, 2) := by decide +kernel
theorem dX7_feedAll_26 : decode cX7_feedAll 26 = .ok (.iload 5, 2) := by decide +kernel
theorem dX7_feedAll_28 : decode cX7_feedAll 28 = .ok (.ifCond .ne 5, 3) := by decide +kernel
theorem dX7_feedAll_31 : decode cX7_feedAll 31 = .ok (.iload_n 3, 1) := by decide +kernel
theorem dX7_feedAll_32 : decode cX7_feedAll 32 = .ok (.ireturn, 1) := by decide +kernel
theorem dX7_feedAll_33 : decode cX7_feedAll 33 = .ok (.aload_n 0, 1) := by decide +kernel
theorem dX7_feedAll_34 : decode cX7_feedAll 34 = .ok (.iload 5, 2) := by decide +kernel
theorem dX7_feedAll_36 : decode cX7_feedAll 36 = .ok (.invokevirtual 54, 3) := by decide +kernel
theorem dX7_feedAll_39 : decode cX7_feedAll 39 = .ok (.iinc 3 1, 3) := by decide +kernel
theorem dX7_feedAll_42 : decode cX7_feedAll 42 = .ok (.iinc 4 1, 3) := by decide +kernel
theorem dX7_feedAll_45 : decode cX7_feedAll 45 = .ok (.goto (-40), 3) := by decide +kernel
theorem dX7_feedAll_48 : decode cX7_feedAll 48 = .ok (.iload_n 3, 1) := by decide +kernel
theorem dX7_feedAll_49 : decode cX7_feedAll 49 = .ok (.ireturn, 1) := by decide +kernel
theorem dX7_row_0 : decode cX7_row 0 = .ok (.aload_n 0, 1) := by decide +kernel
theorem dX7_row_1 : decode cX7_row 1 = .ok (.getfield 12, 3) := by decide +kernel
theorem dX7_row_4 : decode cX7_row 4 = .ok (.getfield 58, 3) := by decide +kernel
theorem dX7_row_7 : decode cX7_row 7 = .ok (.getfield 62, 3) := by decide +kernel
theorem dX7_row_10 : decode cX7_row 10 = .ok (.ireturn, 1) := by decide +kernel
theorem dX7_column_0 : decode cX7_column 0 = .ok (.aload_n 0, 1) := by decide +kernel
theorem dX7_column_1 : decode cX7_column 1 = .ok (.getfield 12, 3) := by decide +kernel
theorem dX7_column_4 : decode cX7_column 4 = .ok (.getfield 58, 3) := by decide +kernel
theorem dX7_column_7 : decode cX7_column 7 = .ok (.getfield 67, 3) := by decide +kernel
theorem dX7_column_10 : decode cX7_column 10 = .ok (.ireturn, 1) := by decide +kernel
theorem dX7_full_0 : decode cX7_full 0 = .ok (.aload_n 0, 1) := by decide +kernel
theorem dX7_full_1 : decode cX7_full 1 = .ok (.getfield 12, 3) := by decide +kernel
theorem dX7_full_4 : decode cX7_full 4 = .ok (.getfield 58, 3) := by decide +kernel
theorem dX7_full_7 : decode cX7_full 7 = .ok (.getfield 70, 3) := by decide +kernel
theorem dX7_full_10 : decode cX7_full 10 = .ok (.ireturn, 1) := by decide +kernel
theorem dX7_pen_0 : decode cX7_pen 0 = .ok (.aload_n 0, 1) := by decide +kernel
theorem dX7_pen_1 : decode cX7_pen 1 = .ok (.getfield 12, 3) := by decide +kernel
theorem dX7_pen_4 : decode cX7_pen 4 = .ok (.getfield 58, 3) := by decide +kernel
theorem dX7_pen_7 : decode cX7_pen 7 = .ok (.getfield 74, 3) := by decide +kernel
theorem dX7_pen_10 : decode cX7_pen 10 = .ok (.ireturn, 1) := by decide +kernel
theorem dX7_mode_0 : decode cX7_mode 0 = .ok (.iload_n 1, 1) := by decide +kernel
theorem dX7_mode_1 : decode cX7_mode 1 = .ok (.tableswitch 98 0 3 #[31, 47, 66, 82], 31) := by decide +kernel
theorem dX7_mode_32 : decode cX7_mode 32 = .ok (.aload_n 0, 1) := by decide +kernel
theorem dX7_mode_33 : decode cX7_mode 33 = .ok (.getfield 12, 3) := by decide +kernel
theorem dX7_mode_36 : decode cX7_mode 36 = .ok (.getfield 77, 3) := by decide +kernel
theorem dX7_mode_39 : decode cX7_mode 39 = .ok (.ifCond .eq 7, 3) := by decide +kernel
theorem dX7_mode_42 : decode cX7_mode 42 = .ok (.iconst 1, 1) := by decide +kernel
theorem dX7_mode_43 : decode cX7_mode 43 = .ok (.goto 4, 3) := by decide +kernel
theorem dX7_mode_46 : decode cX7_mode 46 = .ok (.iconst 0, 1) := by decide +kernel
theorem dX7_mode_47 : decode cX7_mode 47 = .ok (.ireturn, 1) := by decide +kernel
theorem dX7_mode_48 : decode cX7_mode 48 = .ok (.aload_n 0, 1) := by decide +kernel
theorem dX7_mode_49 : decode cX7_mode 49 = .ok (.getfield 12, 3) := by decide +kernel
theorem dX7_mode_52 : decode cX7_mode 52 = .ok (.getfield 58, 3) := by decide +kernel
theorem dX7_mode_55 : decode cX7_mode 55 = .ok (.getfield 80, 3) := by decide +kernel
theorem dX7_mode_58 : decode cX7_mode 58 = .ok (.ifCond .eq 7, 3) := by decide +kernel
theorem dX7_mode_61 : decode cX7_mode 61 = .ok (.iconst 1, 1) := by decide +kernel
theorem dX7_mode_62 : decode cX7_mode 62 = .ok (.goto 4, 3) := by decide +kernel
theorem dX7_mode_65 : decode cX7_mode 65 = .ok (.iconst 0, 1) := by decide +kernel
theorem dX7_mode_66 : decode cX7_mode 66 = .ok (.ireturn, 1) := by decide +kernel
theorem dX7_mode_67 : decode cX7_mode 67 = .ok (.aload_n 0, 1) := by decide +kernel
theorem dX7_mode_68 : decode cX7_mode 68 = .ok (.getfield 12, 3) := by decide +kernel
theorem dX7_mode_71 : decode cX7_mode 71 = .ok (.getfield 83, 3) := by decide +kernel
theorem dX7_mode_74 : decode cX7_mode 74 = .ok (.ifCond .eq 7, 3) := by decide +kernel
theorem dX7_mode_77 : decode cX7_mode 77 = .ok (.iconst 1, 1) := by decide +kernel
theorem dX7_mode_78 : decode cX7_mode 78 = .ok (.goto 4, 3) := by decide +kernel
theorem dX7_mode_81 : decode cX7_mode 81 = .ok (.iconst 0, 1) := by decide +kernel
theorem dX7_mode_82 : decode cX7_mode 82 = .ok (.ireturn, 1) := by decide +kernel
theorem dX7_mode_83 : decode cX7_mode 83 = .ok (.aload_n 0, 1) := by decide +kernel
theorem dX7_mode_84 : decode cX7_mode 84 = .ok (.getfield 12, 3) := by decide +kernel
theorem dX7_mode_87 : decode cX7_mode 87 = .ok (.getfield 86, 3) := by decide +kernel
theorem dX7_mode_90 : decode cX7_mode 90 = .ok (.ifCond .eq 7, 3) := by decide +kernel
theorem dX7_mode_93 : decode cX7_mode 93 = .ok (.iconst 1, 1) := by decide +kernel
theorem dX7_mode_94 : decode cX7_mode 94 = .ok (.goto 4, 3) := by decide +kernel
theorem dX7_mode_97 : decode cX7_mode 97 = .ok (.iconst 0, 1) := by decide +kernel
theorem dX7_mode_98 : decode cX7_mode 98 = .ok (.ireturn, 1) := by decide +kernel
theorem dX7_mode_99 : decode cX7_mode 99 = .ok (.iconst (-1), 1) := by decide +kernel
theorem dX7_mode_100 : decode cX7_mode 100 = .ok (.ireturn, 1) := by decide +kernel
theorem dX7_region_0 : decode cX7_region 0 = .ok (.bipush 8, 2) := by decide +kernel
theorem dX7_region_2 : decode cX7_region 2 = .ok (.aload_n 0, 1) := by decide +kernel
theorem dX7_region_3 : decode cX7_region 3 = .ok (.getfield 12, 3) := by decide +kernel
theorem dX7_region_6 : decode cX7_region 6 = .ok (.getfield 89, 3) := by decide +kernel
theorem dX7_region_9 : decode cX7_region 9 = .ok (.imul, 1) := by decide +kernel
theorem dX7_region_10 : decode cX7_region 10 = .ok (.aload_n 0, 1) := by decide +kernel
theorem dX7_region_11 : decode cX7_region 11 = .ok (.getfield 12, 3) := by decide +kernel
theorem dX7_region_14 : decode cX7_region 14 = .ok (.getfield 92, 3) := by decide +kernel
theorem dX7_region_17 : decode cX7_region 17 = .ok (.iadd, 1) := by decide +kernel
theorem dX7_region_18 : decode cX7_region 18 = .ok (.ireturn, 1) := by decide +kernel
theorem dX7_tab_0 : decode cX7_tab 0 = .ok (.aload_n 0, 1) := by decide +kernel
theorem dX7_tab_1 : decode cX7_tab 1 = .ok (.getfield 12, 3) := by decide +kernel
theorem dX7_tab_4 : decode cX7_tab 4 = .ok (.iload_n 1, 1) := by decide +kernel
theorem dX7_tab_5 : decode cX7_tab 5 = .ok (.invokevirtual 95, 3) := by decide +kernel
theorem dX7_tab_8 : decode cX7_tab 8 = .ok (.ireturn, 1) := by decide +kernel
theorem dX7_bells_0 : decode cX7_bells 0 = .ok (.aload_n 0, 1) := by decide +kernel
theorem dX7_bells_1 : decode cX7_bells 1 = .ok (.getfield 12, 3) := by decide +kernel
theorem dX7_bells_4 : decode cX7_bells 4 = .ok (.getfield 99, 3) := by decide +kernel
theorem dX7_bells_7 : decode cX7_bells 7 = .ok (.ireturn, 1) := by decide +kernel
theorem dX7_state_0 : decode cX7_state 0 = .ok (.aload_n 0, 1) := by decide +kernel
theorem dX7_state_1 : decode cX7_state 1 = .ok (.getfield 47, 3) := by decide +kernel
theorem dX7_state_4 : decode cX7_state 4 = .ok (.ireturn, 1) := by decide +kernel
theorem dX7_code_0 : decode cX7_code 0 = .ok (.iload_n 1, 1) := by decide +kernel
theorem dX7_code_1 : decode cX7_code 1 = .ok (.iload_n 2, 1) := by decide +kernel
theorem dX7_code_2 : decode cX7_code 2 = .ok (.invokestatic 102, 3) := by decide +kernel
theorem dX7_code_5 : decode cX7_code 5 = .ok (.ifCond .ne 11, 3) := by decide +kernel
theorem dX7_code_8 : decode cX7_code 8 = .ok (.new 106, 3) := by decide +kernel
theorem dX7_code_11 : decode cX7_code 11 = .ok (.dup, 1) := by decide +kernel
theorem dX7_code_12 : decode cX7_code 12 = .ok (.invokespecial 108, 3) := by decide +kernel
theorem dX7_code_15 : decode cX7_code 15 = .ok (.athrow, 1) := by decide +kernel
theorem dX7_code_16 : decode cX7_code 16 = .ok (.aload_n 0, 1) := by decide +kernel
theorem dX7_code_17 : decode cX7_code 17 = .ok (.getfield 12, 3) := by decide +kernel
theorem dX7_code_20 : decode cX7_code 20 = .ok (.invokevirtual 109, 3) := by decide +kernel
theorem dX7_code_23 : decode cX7_code 23 = .ok (.getfield 113, 3) := by decide +kernel
theorem dX7_code_26 : decode cX7_code 26 = .ok (.iload_n 1, 1) := by decide +kernel
theorem dX7_code_27 : decode cX7_code 27 = .ok (.bipush 12, 2) := by decide +kernel
theorem dX7_code_29 : decode cX7_code 29 = .ok (.imul, 1) := by decide +kernel
theorem dX7_code_30 : decode cX7_code 30 = .ok (.iload_n 2, 1) := by decide +kernel
theorem dX7_code_31 : decode cX7_code 31 = .ok (.iadd, 1) := by decide +kernel
theorem dX7_code_32 : decode cX7_code 32 = .ok (.iaload, 1) := by decide +kernel
theorem dX7_code_33 : decode cX7_code 33 = .ok (.ireturn, 1) := by decide +kernel
theorem dX7_look_0 : decode cX7_look 0 = .ok (.iload_n 1, 1) := by decide +kernel
theorem dX7_look_1 : decode cX7_look 1 = .ok (.iload_n 2, 1) := by decide +kernel
theorem dX7_look_2 : decode cX7_look 2 = .ok (.invokestatic 102, 3) := by decide +kernel
theorem dX7_look_5 : decode cX7_look 5 = .ok (.ifCond .ne 11, 3) := by decide +kernel
theorem dX7_look_8 : decode cX7_look 8 = .ok (.new 106, 3) := by decide +kernel
theorem dX7_look_11 : decode cX7_look 11 = .ok (.dup, 1) := by decide +kernel
theorem dX7_look_12 : decode cX7_look 12 = .ok (.invokespecial 108, 3) := by decide +kernel
theorem dX7_look_15 : decode cX7_look 15 = .ok (.athrow, 1) := by decide +kernel
theorem dX7_look_16 : decode cX7_look 16 = .ok (.aload_n 0, 1) := by decide +kernel
theorem dX7_look_17 : decode cX7_look 17 = .ok (.getfield 12, 3) := by decide +kernel
theorem dX7_look_20 : decode cX7_look 20 = .ok (.invokevirtual 109, 3) := by decide +kernel
theorem dX7_look_23 : decode cX7_look 23 = .ok (.getfield 119, 3) := by decide +kernel
theorem dX7_look_26 : decode cX7_look 26 = .ok (.iload_n 1, 1) := by decide +kernel
theorem dX7_look_27 : decode cX7_look 27 = .ok (.bipush 12, 2) := by decide +kernel
theorem dX7_look_29 : decode cX7_look 29 = .ok (.imul, 1) := by decide +kernel
theorem dX7_look_30 : decode cX7_look 30 = .ok (.iload_n 2, 1) := by decide +kernel
theorem dX7_look_31 : decode cX7_look 31 = .ok (.iadd, 1) := by decide +kernel
theorem dX7_look_32 : decode cX7_look 32 = .ok (.iaload, 1) := by decide +kernel
theorem dX7_look_33 : decode cX7_look 33 = .ok (.ireturn, 1) := by decide +kernel
theorem dX7_cells_0 : decode cX7_cells 0 = .ok (.aload_n 0, 1) := by decide +kernel
theorem dX7_cells_1 : decode cX7_cells 1 = .ok (.getfield 12, 3) := by decide +kernel
theorem dX7_cells_4 : decode cX7_cells 4 = .ok (.invokevirtual 109, 3) := by decide +kernel
theorem dX7_cells_7 : decode cX7_cells 7 = .ok (.iload_n 1, 1) := by decide +kernel
theorem dX7_cells_8 : decode cX7_cells 8 = .ok (.iload_n 2, 1) := by decide +kernel
theorem dX7_cells_9 : decode cX7_cells 9 = .ok (.invokevirtual 122, 3) := by decide +kernel
theorem dX7_cells_12 : decode cX7_cells 12 = .ok (.ireturn, 1) := by decide +kernel
theorem dX7_waiting_0 : decode cX7_waiting 0 = .ok (.aload_n 0, 1) := by decide +kernel
theorem dX7_waiting_1 : decode cX7_waiting 1 = .ok (.getfield 43, 3) := by decide +kernel
theorem dX7_waiting_4 : decode cX7_waiting 4 = .ok (.getfield 126, 3) := by decide +kernel
theorem dX7_waiting_7 : decode cX7_waiting 7 = .ok (.ireturn, 1) := by decide +kernel
theorem dX7_reply_0 : decode cX7_reply 0 = .ok (.aload_n 0, 1) := by decide +kernel
theorem dX7_reply_1 : decode cX7_reply 1 = .ok (.getfield 43, 3) := by decide +kernel
theorem dX7_reply_4 : decode cX7_reply 4 = .ok (.getfield 126, 3) := by decide +kernel
theorem dX7_reply_7 : decode cX7_reply 7 = .ok (.ifCond .gt 11, 3) := by decide +kernel
theorem dX7_reply_10 : decode cX7_reply 10 = .ok (.new 129, 3) := by decide +kernel
theorem dX7_reply_13 : decode cX7_reply 13 = .ok (.dup, 1) := by decide +kernel
theorem dX7_reply_14 : decode cX7_reply 14 = .ok (.invokespecial 131, 3) := by decide +kernel
theorem dX7_reply_17 : decode cX7_reply 17 = .ok (.athrow, 1) := by decide +kernel
theorem dX7_reply_18 : decode cX7_reply 18 = .ok (.aload_n 0, 1) := by decide +kernel
theorem dX7_reply_19 : decode cX7_reply 19 = .ok (.getfield 43, 3) := by decide +kernel
theorem dX7_reply_22 : decode cX7_reply 22 = .ok (.invokevirtual 132, 3) := by decide +kernel
theorem dX7_reply_25 : decode cX7_reply 25 = .ok (.ireturn, 1) := by decide +kernel
theorem dX7_title_0 : decode cX7_title 0 = .ok (.aload_n 0, 1) := by decide +kernel
theorem dX7_title_1 : decode cX7_title 1 = .ok (.getfield 33, 3) := by decide +kernel
theorem dX7_title_4 : decode cX7_title 4 = .ok (.iload_n 1, 1) := by decide +kernel
theorem dX7_title_5 : decode cX7_title 5 = .ok (.invokevirtual 136, 3) := by decide +kernel
theorem dX7_title_8 : decode cX7_title 8 = .ok (.ireturn, 1) := by decide +kernel
theorem dX7_isCell_0 : decode cX7_isCell 0 = .ok (.iload_n 0, 1) := by decide +kernel
theorem dX7_isCell_1 : decode cX7_isCell 1 = .ok (.ifCond .lt 23, 3) := by decide +kernel
theorem dX7_isCell_4 : decode cX7_isCell 4 = .ok (.iload_n 0, 1) := by decide +kernel
theorem dX7_isCell_5 : decode cX7_isCell 5 = .ok (.bipush 8, 2) := by decide +kernel
theorem dX7_isCell_7 : decode cX7_isCell 7 = .ok (.if_icmp .ge 17, 3) := by decide +kernel
theorem dX7_isCell_10 : decode cX7_isCell 10 = .ok (.iload_n 1, 1) := by decide +kernel
theorem dX7_isCell_11 : decode cX7_isCell 11 = .ok (.ifCond .lt 13, 3) := by decide +kernel
theorem dX7_isCell_14 : decode cX7_isCell 14 = .ok (.iload_n 1, 1) := by decide +kernel
theorem dX7_isCell_15 : decode cX7_isCell 15 = .ok (.bipush 12, 2) := by decide +kernel
theorem dX7_isCell_17 : decode cX7_isCell 17 = .ok (.if_icmp .ge 7, 3) := by decide +kernel
theorem dX7_isCell_20 : decode cX7_isCell 20 = .ok (.iconst 1, 1) := by decide +kernel
theorem dX7_isCell_21 : decode cX7_isCell 21 = .ok (.goto 4, 3) := by decide +kernel
theorem dX7_isCell_24 : decode cX7_isCell 24 = .ok (.iconst 0, 1) := by decide +kernel
theorem dX7_isCell_25 : decode cX7_isCell 25 = .ok (.ireturn, 1) := by decide +kernel
theorem dX7_reset_0 : decode cX7_reset 0 = .ok (.aload_n 0, 1) := by decide +kernel
theorem dX7_reset_1 : decode cX7_reset 1 = .ok (.getfield 12, 3) := by decide +kernel
theorem dX7_reset_4 : decode cX7_reset 4 = .ok (.invokevirtual 140, 3) := by decide +kernel
theorem dX7_reset_7 : decode cX7_reset 7 = .ok (.aload_n 0, 1) := by decide +kernel
theorem dX7_reset_8 : decode cX7_reset 8 = .ok (.getfield 19, 3) := by decide +kernel
theorem dX7_reset_11 : decode cX7_reset 11 = .ok (.invokevirtual 141, 3) := by decide +kernel
theorem dX7_reset_14 : decode cX7_reset 14 = .ok (.aload_n 0, 1) := by decide +kernel
theorem dX7_reset_15 : decode cX7_reset 15 = .ok (.getfield 26, 3) := by decide +kernel
theorem dX7_reset_18 : decode cX7_reset 18 = .ok (.invokevirtual 144, 3) := by decide +kernel
theorem dX7_reset_21 : decode cX7_reset 21 = .ok (.aload_n 0, 1) := by decide +kernel
theorem dX7_reset_22 : decode cX7_reset 22 = .ok (.getfield 33, 3) := by decide +kernel
theorem dX7_reset_25 : decode cX7_reset 25 = .ok (.invokevirtual 147, 3) := by decide +kernel
theorem dX7_reset_28 : decode cX7_reset 28 = .ok (.aload_n 0, 1) := by decide +kernel
theorem dX7_reset_29 : decode cX7_reset 29 = .ok (.getfield 37, 3) := by decide +kernel
theorem dX7_reset_32 : decode cX7_reset 32 = .ok (.invokevirtual 147, 3) := by decide +kernel
theorem dX7_reset_35 : decode cX7_reset 35 = .ok (.aload_n 0, 1) := by decide +kernel
theorem dX7_reset_36 : decode cX7_reset 36 = .ok (.getfield 43, 3) := by decide +kernel
theorem dX7_reset_39 : decode cX7_reset 39 = .ok (.invokevirtual 150, 3) := by decide +kernel
theorem dX7_reset_42 : decode cX7_reset 42 = .ok (.aload_n 0, 1) := by decide +kernel
theorem dX7_reset_43 : decode cX7_reset 43 = .ok (.iconst 0, 1) := by decide +kernel
theorem dX7_reset_44 : decode cX7_reset 44 = .ok (.putfield 47, 3) := by decide +kernel
theorem dX7_reset_47 : decode cX7_reset 47 = .ok (.return_, 1) := by decide +kernel
theorem dX7_take_0 : decode cX7_take 0 = .ok (.aload_n 0, 1) := by decide +kernel
theorem dX7_take_1 : decode cX7_take 1 = .ok (.getfield 19, 3) := by decide +kernel
theorem dX7_take_4 : decode cX7_take 4 = .ok (.getfield 151, 3) := by decide +kernel
theorem dX7_take_7 : decode cX7_take 7 = .ok (.ifCond .le 39, 3) := by decide +kernel
theorem dX7_take_10 : decode cX7_take 10 = .ok (.iload_n 1, 1) := by decide +kernel
theorem dX7_take_11 : decode cX7_take 11 = .ok (.sipush 128, 3) := by decide +kernel
theorem dX7_take_14 : decode cX7_take 14 = .ok (.if_icmp .lt 16, 3) := by decide +kernel
theorem dX7_take_17 : decode cX7_take 17 = .ok (.iload_n 1, 1) := by decide +kernel
theorem dX7_take_18 : decode cX7_take 18 = .ok (.sipush 191, 3) := by decide +kernel
theorem dX7_take_21 : decode cX7_take 21 = .ok (.if_icmp .gt 9, 3) := by decide +kernel
theorem dX7_take_24 : decode cX7_take 24 = .ok (.aload_n 0, 1) := by decide +kernel
theorem dX7_take_25 : decode cX7_take 25 = .ok (.iload_n 1, 1) := by decide +kernel
theorem dX7_take_26 : decode cX7_take 26 = .ok (.invokevirtual 154, 3) := by decide +kernel
theorem dX7_take_29 : decode cX7_take 29 = .ok (.return_, 1) := by decide +kernel
theorem dX7_take_30 : decode cX7_take 30 = .ok (.aload_n 0, 1) := by decide +kernel
theorem dX7_take_31 : decode cX7_take 31 = .ok (.getfield 19, 3) := by decide +kernel
theorem dX7_take_34 : decode cX7_take 34 = .ok (.invokevirtual 141, 3) := by decide +kernel
theorem dX7_take_37 : decode cX7_take 37 = .ok (.aload_n 0, 1) := by decide +kernel
theorem dX7_take_38 : decode cX7_take 38 = .ok (.getfield 12, 3) := by decide +kernel
theorem dX7_take_41 : decode cX7_take 41 = .ok (.ldc 157, 2) := by decide +kernel
theorem dX7_take_43 : decode cX7_take 43 = .ok (.invokevirtual 158, 3) := by decide +kernel
theorem dX7_take_46 : decode cX7_take 46 = .ok (.iload_n 1, 1) := by decide +kernel
theorem dX7_take_47 : decode cX7_take 47 = .ok (.bipush 24, 2) := by decide +kernel
theorem dX7_take_49 : decode cX7_take 49 = .ok (.if_icmp .eq 9, 3) := by decide +kernel
theorem dX7_take_52 : decode cX7_take 52 = .ok (.iload_n 1, 1) := by decide +kernel
theorem dX7_take_53 : decode cX7_take 53 = .ok (.bipush 26, 2) := by decide +kernel
theorem dX7_take_55 : decode cX7_take 55 = .ok (.if_icmp .ne 11, 3) := by decide +kernel
theorem dX7_take_58 : decode cX7_take 58 = .ok (.aload_n 0, 1) := by decide +kernel
theorem dX7_take_59 : decode cX7_take 59 = .ok (.iconst 0, 1) := by decide +kernel
theorem dX7_take_60 : decode cX7_take 60 = .ok (.putfield 47, 3) := by decide +kernel
theorem dX7_take_63 : decode cX7_take 63 = .ok (.goto 128, 3) := by decide +kernel
theorem dX7_take_66 : decode cX7_take 66 = .ok (.iload_n 1, 1) := by decide +kernel
theorem dX7_take_67 : decode cX7_take 67 = .ok (.bipush 27, 2) := by decide +kernel
theorem dX7_take_69 : decode cX7_take 69 = .ok (.if_icmp .ne 11, 3) := by decide +kernel
theorem dX7_take_72 : decode cX7_take 72 = .ok (.aload_n 0, 1) := by decide +kernel
theorem dX7_take_73 : decode cX7_take 73 = .ok (.iconst 1, 1) := by decide +kernel
theorem dX7_take_74 : decode cX7_take 74 = .ok (.putfield 47, 3) := by decide +kernel
theorem dX7_take_77 : decode cX7_take 77 = .ok (.goto 114, 3) := by decide +kernel
theorem dX7_take_80 : decode cX7_take 80 = .ok (.iload_n 1, 1) := by decide +kernel
theorem dX7_take_81 : decode cX7_take 81 = .ok (.bipush 32, 2) := by decide +kernel
theorem dX7_take_83 : decode cX7_take 83 = .ok (.if_icmp .ge 19, 3) := by decide +kernel
theorem dX7_take_86 : decode cX7_take 86 = .ok (.aload_n 0, 1) := by decide +kernel
theorem dX7_take_87 : decode cX7_take 87 = .ok (.getfield 47, 3) := by decide +kernel
theorem dX7_take_90 : decode cX7_take 90 = .ok (.iconst 4, 1) := by decide +kernel
theorem dX7_take_91 : decode cX7_take 91 = .ok (.if_icmp .eq 11, 3) := by decide +kernel
theorem dX7_take_94 : decode cX7_take 94 = .ok (.aload_n 0, 1) := by decide +kernel
theorem dX7_take_95 : decode cX7_take 95 = .ok (.iload_n 1, 1) := by decide +kernel
theorem dX7_take_96 : decode cX7_take 96 = .ok (.invokevirtual 161, 3) := by decide +kernel
theorem dX7_take_99 : decode cX7_take 99 = .ok (.goto 92, 3) := by decide +kernel
theorem dX7_take_102 : decode cX7_take 102 = .ok (.aload_n 0, 1) := by decide +kernel
theorem dX7_take_103 : decode cX7_take 103 = .ok (.getfield 47, 3) := by decide +kernel
theorem dX7_take_106 : decode cX7_take 106 = .ok (.ifCond .ne 11, 3) := by decide +kernel
theorem dX7_take_109 : decode cX7_take 109 = .ok (.aload_n 0, 1) := by decide +kernel
theorem dX7_take_110 : decode cX7_take 110 = .ok (.iload_n 1, 1) := by decide +kernel
theorem dX7_take_111 : decode cX7_take 111 = .ok (.invokevirtual 164, 3) := by decide +kernel
theorem dX7_take_114 : decode cX7_take 114 = .ok (.goto 77, 3) := by decide +kernel
theorem dX7_take_117 : decode cX7_take 117 = .ok (.iload_n 1, 1) := by decide +kernel
theorem dX7_take_118 : decode cX7_take 118 = .ok (.bipush 127, 2) := by decide +kernel
theorem dX7_take_120 : decode cX7_take 120 = .ok (.if_icmp .lt 4, 3) := by decide +kernel
theorem dX7_take_123 : decode cX7_take 123 = .ok (.return_, 1) := by decide +kernel
theorem dX7_take_124 : decode cX7_take 124 = .ok (.aload_n 0, 1) := by decide +kernel
theorem dX7_take_125 : decode cX7_take 125 = .ok (.getfield 47, 3) := by decide +kernel
theorem dX7_take_128 : decode cX7_take 128 = .ok (.iconst 1, 1) := by decide +kernel
theorem dX7_take_129 : decode cX7_take 129 = .ok (.if_icmp .ne 11, 3) := by decide +kernel
theorem dX7_take_132 : decode cX7_take 132 = .ok (.aload_n 0, 1) := by decide +kernel
theorem dX7_take_133 : decode cX7_take 133 = .ok (.iload_n 1, 1) := by decide +kernel
theorem dX7_take_134 : decode cX7_take 134 = .ok (.invokevirtual 167, 3) := by decide +kernel
theorem dX7_take_137 : decode cX7_take 137 = .ok (.goto 54, 3) := by decide +kernel
theorem dX7_take_140 : decode cX7_take 140 = .ok (.aload_n 0, 1) := by decide +kernel
theorem dX7_take_141 : decode cX7_take 141 = .ok (.getfield 47, 3) := by decide +kernel
theorem dX7_take_144 : decode cX7_take 144 = .ok (.iconst 4, 1) := by decide +kernel
theorem dX7_take_145 : decode cX7_take 145 = .ok (.if_icmp .ne 11, 3) := by decide +kernel
theorem dX7_take_148 : decode cX7_take 148 = .ok (.aload_n 0, 1) := by decide +kernel
theorem dX7_take_149 : decode cX7_take 149 = .ok (.iload_n 1, 1) := by decide +kernel
theorem dX7_take_150 : decode cX7_take 150 = .ok (.invokevirtual 170, 3) := by decide +kernel
theorem dX7_take_153 : decode cX7_take 153 = .ok (.goto 38, 3) := by decide +kernel
theorem dX7_take_156 : decode cX7_take 156 = .ok (.iload_n 1, 1) := by decide +kernel
theorem dX7_take_157 : decode cX7_take 157 = .ok (.bipush 64, 2) := by decide +kernel
theorem dX7_take_159 : decode cX7_take 159 = .ok (.if_icmp .ge 11, 3) := by decide +kernel
theorem dX7_take_162 : decode cX7_take 162 = .ok (.aload_n 0, 1) := by decide +kernel
theorem dX7_take_163 : decode cX7_take 163 = .ok (.iload_n 1, 1) := by decide +kernel
theorem dX7_take_164 : decode cX7_take 164 = .ok (.invokevirtual 173, 3) := by decide +kernel
theorem dX7_take_167 : decode cX7_take 167 = .ok (.goto 24, 3) := by decide +kernel
theorem dX7_take_170 : decode cX7_take 170 = .ok (.aload_n 0, 1) := by decide +kernel
theorem dX7_take_171 : decode cX7_take 171 = .ok (.getfield 47, 3) := by decide +kernel
theorem dX7_take_174 : decode cX7_take 174 = .ok (.iconst 2, 1) := by decide +kernel
theorem dX7_take_175 : decode cX7_take 175 = .ok (.if_icmp .ne 11, 3) := by decide +kernel
theorem dX7_take_178 : decode cX7_take 178 = .ok (.aload_n 0, 1) := by decide +kernel
theorem dX7_take_179 : decode cX7_take 179 = .ok (.iload_n 1, 1) := by decide +kernel
theorem dX7_take_180 : decode cX7_take 180 = .ok (.invokevirtual 176, 3) := by decide +kernel
theorem dX7_take_183 : decode cX7_take 183 = .ok (.goto 8, 3) := by decide +kernel
theorem dX7_take_186 : decode cX7_take 186 = .ok (.aload_n 0, 1) := by decide +kernel
theorem dX7_take_187 : decode cX7_take 187 = .ok (.iconst 0, 1) := by decide +kernel
theorem dX7_take_188 : decode cX7_take 188 = .ok (.putfield 47, 3) := by decide +kernel
theorem dX7_take_191 : decode cX7_take 191 = .ok (.return_, 1) := by decide +kernel
theorem dX7_takeFurther_0 : decode cX7_takeFurther 0 = .ok (.aload_n 0, 1) := by decide +kernel
theorem dX7_takeFurther_1 : decode cX7_takeFurther 1 = .ok (.getfield 19, 3) := by decide +kernel
theorem dX7_takeFurther_4 : decode cX7_takeFurther 4 = .ok (.iload_n 1, 1) := by decide +kernel
theorem dX7_takeFurther_5 : decode cX7_takeFurther 5 = .ok (.invokevirtual 179, 3) := by decide +kernel
theorem dX7_takeFurther_8 : decode cX7_takeFurther 8 = .ok (.aload_n 0, 1) := by decide +kernel
theorem dX7_takeFurther_9 : decode cX7_takeFurther 9 = .ok (.getfield 19, 3) := by decide +kernel
theorem dX7_takeFurther_12 : decode cX7_takeFurther 12 = .ok (.getfield 151, 3) := by decide +kernel
theorem dX7_takeFurther_15 : decode cX7_takeFurther 15 = .ok (.ifCond .ne 17, 3) := by decide +kernel
theorem dX7_takeFurther_18 : decode cX7_takeFurther 18 = .ok (.aload_n 0, 1) := by decide +kernel
theorem dX7_takeFurther_19 : decode cX7_takeFurther 19 = .ok (.getfield 12, 3) := by decide +kernel
theorem dX7_takeFurther_22 : decode cX7_takeFurther 22 = .ok (.aload_n 0, 1) := by decide +kernel
theorem dX7_takeFurther_23 : decode cX7_takeFurther 23 = .ok (.getfield 19, 3) := by decide +kernel
theorem dX7_takeFurther_26 : decode cX7_takeFurther 26 = .ok (.invokevirtual 182, 3) := by decide +kernel
theorem dX7_takeFurther_29 : decode cX7_takeFurther 29 = .ok (.invokevirtual 158, 3) := by decide +kernel
theorem dX7_takeFurther_32 : decode cX7_takeFurther 32 = .ok (.return_, 1) := by decide +kernel
theorem dX7_takeInGround_0 : decode cX7_takeInGround 0 = .ok (.iload_n 1, 1) := by decide +kernel
theorem dX7_takeInGround_1 : decode cX7_takeInGround 1 = .ok (.bipush 127, 2) := by decide +kernel
theorem dX7_takeInGround_3 : decode cX7_takeInGround 3 = .ok (.if_icmp .ge 14, 3) := by decide +kernel
theorem dX7_takeInGround_6 : decode cX7_takeInGround 6 = .ok (.aload_n 0, 1) := by decide +kernel
theorem dX7_takeInGround_7 : decode cX7_takeInGround 7 = .ok (.getfield 12, 3) := by decide +kernel
theorem dX7_takeInGround_10 : decode cX7_takeInGround 10 = .ok (.iload_n 1, 1) := by decide +kernel
theorem dX7_takeInGround_11 : decode cX7_takeInGround 11 = .ok (.invokevirtual 158, 3) := by decide +kernel
theorem dX7_takeInGround_14 : decode cX7_takeInGround 14 = .ok (.goto 43, 3) := by decide +kernel
theorem dX7_takeInGround_17 : decode cX7_takeInGround 17 = .ok (.iload_n 1, 1) := by decide +kernel
theorem dX7_takeInGround_18 : decode cX7_takeInGround 18 = .ok (.sipush 194, 3) := by decide +kernel
theorem dX7_takeInGround_21 : decode cX7_takeInGround 21 = .ok (.if_icmp .lt 21, 3) := by decide +kernel
theorem dX7_takeInGround_24 : decode cX7_takeInGround 24 = .ok (.iload_n 1, 1) := by decide +kernel
theorem dX7_takeInGround_25 : decode cX7_takeInGround 25 = .ok (.sipush 244, 3) := by decide +kernel
theorem dX7_takeInGround_28 : decode cX7_takeInGround 28 = .ok (.if_icmp .gt 14, 3) := by decide +kernel
theorem dX7_takeInGround_31 : decode cX7_takeInGround 31 = .ok (.aload_n 0, 1) := by decide +kernel
theorem dX7_takeInGround_32 : decode cX7_takeInGround 32 = .ok (.getfield 19, 3) := by decide +kernel
theorem dX7_takeInGround_35 : decode cX7_takeInGround 35 = .ok (.iload_n 1, 1) := by decide +kernel
theorem dX7_takeInGround_36 : decode cX7_takeInGround 36 = .ok (.invokevirtual 185, 3) := by decide +kernel
theorem dX7_takeInGround_39 : decode cX7_takeInGround 39 = .ok (.goto 18, 3) := by decide +kernel
theorem dX7_takeInGround_42 : decode cX7_takeInGround 42 = .ok (.iload_n 1, 1) := by decide +kernel
theorem dX7_takeInGround_43 : decode cX7_takeInGround 43 = .ok (.bipush 127, 2) := by decide +kernel
theorem dX7_takeInGround_45 : decode cX7_takeInGround 45 = .ok (.if_icmp .le 12, 3) := by decide +kernel
theorem dX7_takeInGround_48 : decode cX7_takeInGround 48 = .ok (.aload_n 0, 1) := by decide +kernel
theorem dX7_takeInGround_49 : decode cX7_takeInGround 49 = .ok (.getfield 12, 3) := by decide +kernel
theorem dX7_takeInGround_52 : decode cX7_takeInGround 52 = .ok (.ldc 157, 2) := by decide +kernel
theorem dX7_takeInGround_54 : decode cX7_takeInGround 54 = .ok (.invokevirtual 158, 3) := by decide +kernel
theorem dX7_takeInGround_57 : decode cX7_takeInGround 57 = .ok (.return_, 1) := by decide +kernel
theorem dX7_control_0 : decode cX7_control 0 = .ok (.iload_n 1, 1) := by decide +kernel
theorem dX7_control_1 : decode cX7_control 1 = .ok (.tableswitch 101 7 13 #[43, 59, 70, 80, 80, 80, 90], 43) := by decide +kernel
theorem dX7_control_44 : decode cX7_control 44 = .ok (.aload_n 0, 1) := by decide +kernel
theorem dX7_control_45 : decode cX7_control 45 = .ok (.getfield 12, 3) := by decide +kernel
theorem dX7_control_48 : decode cX7_control 48 = .ok (.dup, 1) := by decide +kernel
theorem dX7_control_49 : decode cX7_control 49 = .ok (.getfield 99, 3) := by decide +kernel
theorem dX7_control_52 : decode cX7_control 52 = .ok (.iconst 1, 1) := by decide +kernel
theorem dX7_control_53 : decode cX7_control 53 = .ok (.iadd, 1) := by decide +kernel
theorem dX7_control_54 : decode cX7_control 54 = .ok (.putfield 99, 3) := by decide +kernel
theorem dX7_control_57 : decode cX7_control 57 = .ok (.goto 45, 3) := by decide +kernel
theorem dX7_control_60 : decode cX7_control 60 = .ok (.aload_n 0, 1) := by decide +kernel
theorem dX7_control_61 : decode cX7_control 61 = .ok (.getfield 12, 3) := by decide +kernel
theorem dX7_control_64 : decode cX7_control 64 = .ok (.iconst 1, 1) := by decide +kernel
theorem dX7_control_65 : decode cX7_control 65 = .ok (.invokevirtual 187, 3) := by decide +kernel
theorem dX7_control_68 : decode cX7_control 68 = .ok (.goto 34, 3) := by decide +kernel
theorem dX7_control_71 : decode cX7_control 71 = .ok (.aload_n 0, 1) := by decide +kernel
theorem dX7_control_72 : decode cX7_control 72 = .ok (.getfield 12, 3) := by decide +kernel
theorem dX7_control_75 : decode cX7_control 75 = .ok (.invokevirtual 190, 3) := by decide +kernel
theorem dX7_control_78 : decode cX7_control 78 = .ok (.goto 24, 3) := by decide +kernel
theorem dX7_control_81 : decode cX7_control 81 = .ok (.aload_n 0, 1) := by decide +kernel
theorem dX7_control_82 : decode cX7_control 82 = .ok (.getfield 12, 3) := by decide +kernel
theorem dX7_control_85 : decode cX7_control 85 = .ok (.invokevirtual 193, 3) := by decide +kernel
theorem dX7_control_88 : decode cX7_control 88 = .ok (.goto 14, 3) := by decide +kernel
theorem dX7_control_91 : decode cX7_control 91 = .ok (.aload_n 0, 1) := by decide +kernel
theorem dX7_control_92 : decode cX7_control 92 = .ok (.getfield 12, 3) := by decide +kernel
theorem dX7_control_95 : decode cX7_control 95 = .ok (.iconst 0, 1) := by decide +kernel
theorem dX7_control_96 : decode cX7_control 96 = .ok (.invokevirtual 196, 3) := by decide +kernel
theorem dX7_control_99 : decode cX7_control 99 = .ok (.goto 3, 3) := by decide +kernel
theorem dX7_control_102 : decode cX7_control 102 = .ok (.return_, 1) := by decide +kernel
theorem dX7_takeInEscape_0 : decode cX7_takeInEscape 0 = .ok (.aload_n 0, 1) := by decide +kernel
theorem dX7_takeInEscape_1 : decode cX7_takeInEscape 1 = .ok (.iload_n 1, 1) := by decide +kernel
theorem dX7_takeInEscape_2 : decode cX7_takeInEscape 2 = .ok (.bipush 48, 2) := by decide +kernel
theorem dX7_takeInEscape_4 : decode cX7_takeInEscape 4 = .ok (.if_icmp .ge 7, 3) := by decide +kernel
theorem dX7_takeInEscape_7 : decode cX7_takeInEscape 7 = .ok (.iconst 3, 1) := by decide +kernel
theorem dX7_takeInEscape_8 : decode cX7_takeInEscape 8 = .ok (.goto 4, 3) := by decide +kernel
theorem dX7_takeInEscape_11 : decode cX7_takeInEscape 11 = .ok (.iconst 0, 1) := by decide +kernel
theorem dX7_takeInEscape_12 : decode cX7_takeInEscape 12 = .ok (.putfield 47, 3) := by decide +kernel
theorem dX7_takeInEscape_15 : decode cX7_takeInEscape 15 = .ok (.iload_n 1, 1) := by decide +kernel
theorem dX7_takeInEscape_16 : decode cX7_takeInEscape 16 = .ok (.lookupswitch 189 #[(55, 114), (56, 124), (68, 134), (69, 144), (72, 162), (77, 172), (91, 84), (93, 99), (99, 182)], 84) := by decide +kernel
theorem dX7_takeInEscape_100 : decode cX7_takeInEscape 100 = .ok (.aload_n 0, 1) := by decide +kernel
theorem dX7_takeInEscape_101 : decode cX7_takeInEscape 101 = .ok (.getfield 26, 3) := by decide +kernel
theorem dX7_takeInEscape_104 : decode cX7_takeInEscape 104 = .ok (.invokevirtual 144, 3) := by decide +kernel
theorem dX7_takeInEscape_107 : decode cX7_takeInEscape 107 = .ok (.aload_n 0, 1) := by decide +kernel
theorem dX7_takeInEscape_108 : decode cX7_takeInEscape 108 = .ok (.iconst 2, 1) := by decide +kernel
theorem dX7_takeInEscape_109 : decode cX7_takeInEscape 109 = .ok (.putfield 47, 3) := by decide +kernel
theorem dX7_takeInEscape_112 : decode cX7_takeInEscape 112 = .ok (.goto 93, 3) := by decide +kernel
theorem dX7_takeInEscape_115 : decode cX7_takeInEscape 115 = .ok (.aload_n 0, 1) := by decide +kernel
theorem dX7_takeInEscape_116 : decode cX7_takeInEscape 116 = .ok (.getfield 37, 3) := by decide +kernel
theorem dX7_takeInEscape_119 : decode cX7_takeInEscape 119 = .ok (.invokevirtual 147, 3) := by decide +kernel
theorem dX7_takeInEscape_122 : decode cX7_takeInEscape 122 = .ok (.aload_n 0, 1) := by decide +kernel
theorem dX7_takeInEscape_123 : decode cX7_takeInEscape 123 = .ok (.iconst 4, 1) := by decide +kernel
theorem dX7_takeInEscape_124 : decode cX7_takeInEscape 124 = .ok (.putfield 47, 3) := by decide +kernel
theorem dX7_takeInEscape_127 : decode cX7_takeInEscape 127 = .ok (.goto 78, 3) := by decide +kernel
theorem dX7_takeInEscape_130 : decode cX7_takeInEscape 130 = .ok (.aload_n 0, 1) := by decide +kernel
theorem dX7_takeInEscape_131 : decode cX7_takeInEscape 131 = .ok (.getfield 12, 3) := by decide +kernel
theorem dX7_takeInEscape_134 : decode cX7_takeInEscape 134 = .ok (.invokevirtual 199, 3) := by decide +kernel
theorem dX7_takeInEscape_137 : decode cX7_takeInEscape 137 = .ok (.goto 68, 3) := by decide +kernel
theorem dX7_takeInEscape_140 : decode cX7_takeInEscape 140 = .ok (.aload_n 0, 1) := by decide +kernel
theorem dX7_takeInEscape_141 : decode cX7_takeInEscape 141 = .ok (.getfield 12, 3) := by decide +kernel
theorem dX7_takeInEscape_144 : decode cX7_takeInEscape 144 = .ok (.invokevirtual 202, 3) := by decide +kernel
theorem dX7_takeInEscape_147 : decode cX7_takeInEscape 147 = .ok (.goto 58, 3) := by decide +kernel
theorem dX7_takeInEscape_150 : decode cX7_takeInEscape 150 = .ok (.aload_n 0, 1) := by decide +kernel
theorem dX7_takeInEscape_151 : decode cX7_takeInEscape 151 = .ok (.getfield 12, 3) := by decide +kernel
theorem dX7_takeInEscape_154 : decode cX7_takeInEscape 154 = .ok (.invokevirtual 193, 3) := by decide +kernel
theorem dX7_takeInEscape_157 : decode cX7_takeInEscape 157 = .ok (.goto 48, 3) := by decide +kernel
theorem dX7_takeInEscape_160 : decode cX7_takeInEscape 160 = .ok (.aload_n 0, 1) := by decide +kernel
theorem dX7_takeInEscape_161 : decode cX7_takeInEscape 161 = .ok (.getfield 12, 3) := by decide +kernel
theorem dX7_takeInEscape_164 : decode cX7_takeInEscape 164 = .ok (.iconst 0, 1) := by decide +kernel
theorem dX7_takeInEscape_165 : decode cX7_takeInEscape 165 = .ok (.invokevirtual 196, 3) := by decide +kernel
theorem dX7_takeInEscape_168 : decode cX7_takeInEscape 168 = .ok (.aload_n 0, 1) := by decide +kernel
theorem dX7_takeInEscape_169 : decode cX7_takeInEscape 169 = .ok (.getfield 12, 3) := by decide +kernel
theorem dX7_takeInEscape_172 : decode cX7_takeInEscape 172 = .ok (.invokevirtual 193, 3) := by decide +kernel
theorem dX7_takeInEscape_175 : decode cX7_takeInEscape 175 = .ok (.goto 30, 3) := by decide +kernel
theorem dX7_takeInEscape_178 : decode cX7_takeInEscape 178 = .ok (.aload_n 0, 1) := by decide +kernel
theorem dX7_takeInEscape_179 : decode cX7_takeInEscape 179 = .ok (.getfield 12, 3) := by decide +kernel
theorem dX7_takeInEscape_182 : decode cX7_takeInEscape 182 = .ok (.invokevirtual 205, 3) := by decide +kernel
theorem dX7_takeInEscape_185 : decode cX7_takeInEscape 185 = .ok (.goto 20, 3) := by decide +kernel
theorem dX7_takeInEscape_188 : decode cX7_takeInEscape 188 = .ok (.aload_n 0, 1) := by decide +kernel
theorem dX7_takeInEscape_189 : decode cX7_takeInEscape 189 = .ok (.getfield 12, 3) := by decide +kernel
theorem dX7_takeInEscape_192 : decode cX7_takeInEscape 192 = .ok (.invokevirtual 208, 3) := by decide +kernel
theorem dX7_takeInEscape_195 : decode cX7_takeInEscape 195 = .ok (.goto 10, 3) := by decide +kernel
theorem dX7_takeInEscape_198 : decode cX7_takeInEscape 198 = .ok (.aload_n 0, 1) := by decide +kernel
theorem dX7_takeInEscape_199 : decode cX7_takeInEscape 199 = .ok (.invokevirtual 51, 3) := by decide +kernel
theorem dX7_takeInEscape_202 : decode cX7_takeInEscape 202 = .ok (.goto 3, 3) := by decide +kernel
theorem dX7_takeInEscape_205 : decode cX7_takeInEscape 205 = .ok (.return_, 1) := by decide +kernel
theorem dX7_takeBeforeEnd_0 : decode cX7_takeBeforeEnd 0 = .ok (.aload_n 0, 1) := by decide +kernel
theorem dX7_takeBeforeEnd_1 : decode cX7_takeBeforeEnd 1 = .ok (.getfield 47, 3) := by decide +kernel
theorem dX7_takeBeforeEnd_4 : decode cX7_takeBeforeEnd 4 = .ok (.iconst 3, 1) := by decide +kernel
theorem dX7_takeBeforeEnd_5 : decode cX7_takeBeforeEnd 5 = .ok (.if_icmp .ne 4, 3) := by decide +kernel
theorem dX7_takeBeforeEnd_8 : decode cX7_takeBeforeEnd 8 = .ok (.return_, 1) := by decide +kernel
theorem dX7_takeBeforeEnd_9 : decode cX7_takeBeforeEnd 9 = .ok (.iload_n 1, 1) := by decide +kernel
theorem dX7_takeBeforeEnd_10 : decode cX7_takeBeforeEnd 10 = .ok (.bipush 48, 2) := by decide +kernel
theorem dX7_takeBeforeEnd_12 : decode cX7_takeBeforeEnd 12 = .ok (.if_icmp .lt 23, 3) := by decide +kernel
theorem dX7_takeBeforeEnd_15 : decode cX7_takeBeforeEnd 15 = .ok (.iload_n 1, 1) := by decide +kernel
theorem dX7_takeBeforeEnd_16 : decode cX7_takeBeforeEnd 16 = .ok (.bipush 57, 2) := by decide +kernel
theorem dX7_takeBeforeEnd_18 : decode cX7_takeBeforeEnd 18 = .ok (.if_icmp .gt 17, 3) := by decide +kernel
theorem dX7_takeBeforeEnd_21 : decode cX7_takeBeforeEnd 21 = .ok (.aload_n 0, 1) := by decide +kernel
theorem dX7_takeBeforeEnd_22 : decode cX7_takeBeforeEnd 22 = .ok (.getfield 26, 3) := by decide +kernel
theorem dX7_takeBeforeEnd_25 : decode cX7_takeBeforeEnd 25 = .ok (.iload_n 1, 1) := by decide +kernel
theorem dX7_takeBeforeEnd_26 : decode cX7_takeBeforeEnd 26 = .ok (.bipush 48, 2) := by decide +kernel
theorem dX7_takeBeforeEnd_28 : decode cX7_takeBeforeEnd 28 = .ok (.isub, 1) := by decide +kernel
theorem dX7_takeBeforeEnd_29 : decode cX7_takeBeforeEnd 29 = .ok (.invokevirtual 211, 3) := by decide +kernel
theorem dX7_takeBeforeEnd_32 : decode cX7_takeBeforeEnd 32 = .ok (.goto 51, 3) := by decide +kernel
theorem dX7_takeBeforeEnd_35 : decode cX7_takeBeforeEnd 35 = .ok (.iload_n 1, 1) := by decide +kernel
theorem dX7_takeBeforeEnd_36 : decode cX7_takeBeforeEnd 36 = .ok (.bipush 59, 2) := by decide +kernel
theorem dX7_takeBeforeEnd_38 : decode cX7_takeBeforeEnd 38 = .ok (.if_icmp .ne 13, 3) := by decide +kernel
theorem dX7_takeBeforeEnd_41 : decode cX7_takeBeforeEnd 41 = .ok (.aload_n 0, 1) := by decide +kernel
theorem dX7_takeBeforeEnd_42 : decode cX7_takeBeforeEnd 42 = .ok (.getfield 26, 3) := by decide +kernel
theorem dX7_takeBeforeEnd_45 : decode cX7_takeBeforeEnd 45 = .ok (.invokevirtual 214, 3) := by decide +kernel
theorem dX7_takeBeforeEnd_48 : decode cX7_takeBeforeEnd 48 = .ok (.goto 35, 3) := by decide +kernel
theorem dX7_takeBeforeEnd_51 : decode cX7_takeBeforeEnd 51 = .ok (.iload_n 1, 1) := by decide +kernel
theorem dX7_takeBeforeEnd_52 : decode cX7_takeBeforeEnd 52 = .ok (.bipush 63, 2) := by decide +kernel
theorem dX7_takeBeforeEnd_54 : decode cX7_takeBeforeEnd 54 = .ok (.if_icmp .ne 24, 3) := by decide +kernel
theorem dX7_takeBeforeEnd_57 : decode cX7_takeBeforeEnd 57 = .ok (.aload_n 0, 1) := by decide +kernel
theorem dX7_takeBeforeEnd_58 : decode cX7_takeBeforeEnd 58 = .ok (.getfield 26, 3) := by decide +kernel
theorem dX7_takeBeforeEnd_61 : decode cX7_takeBeforeEnd 61 = .ok (.invokevirtual 217, 3) := by decide +kernel
theorem dX7_takeBeforeEnd_64 : decode cX7_takeBeforeEnd 64 = .ok (.ifCond .eq 14, 3) := by decide +kernel
theorem dX7_takeBeforeEnd_67 : decode cX7_takeBeforeEnd 67 = .ok (.aload_n 0, 1) := by decide +kernel
theorem dX7_takeBeforeEnd_68 : decode cX7_takeBeforeEnd 68 = .ok (.getfield 26, 3) := by decide +kernel
theorem dX7_takeBeforeEnd_71 : decode cX7_takeBeforeEnd 71 = .ok (.iconst 1, 1) := by decide +kernel
theorem dX7_takeBeforeEnd_72 : decode cX7_takeBeforeEnd 72 = .ok (.putfield 221, 3) := by decide +kernel
theorem dX7_takeBeforeEnd_75 : decode cX7_takeBeforeEnd 75 = .ok (.goto 8, 3) := by decide +kernel
theorem dX7_takeBeforeEnd_78 : decode cX7_takeBeforeEnd 78 = .ok (.aload_n 0, 1) := by decide +kernel
theorem dX7_takeBeforeEnd_79 : decode cX7_takeBeforeEnd 79 = .ok (.iconst 3, 1) := by decide +kernel
theorem dX7_takeBeforeEnd_80 : decode cX7_takeBeforeEnd 80 = .ok (.putfield 47, 3) := by decide +kernel
theorem dX7_takeBeforeEnd_83 : decode cX7_takeBeforeEnd 83 = .ok (.return_, 1) := by decide +kernel
theorem dX7_takeInTitle_0 : decode cX7_takeInTitle 0 = .ok (.iload_n 1, 1) := by decide +kernel
theorem dX7_takeInTitle_1 : decode cX7_takeInTitle 1 = .ok (.bipush 32, 2) := by decide +kernel
theorem dX7_takeInTitle_3 : decode cX7_takeInTitle 3 = .ok (.if_icmp .lt 14, 3) := by decide +kernel
theorem dX7_takeInTitle_6 : decode cX7_takeInTitle 6 = .ok (.aload_n 0, 1) := by decide +kernel
theorem dX7_takeInTitle_7 : decode cX7_takeInTitle 7 = .ok (.getfield 37, 3) := by decide +kernel
theorem dX7_takeInTitle_10 : decode cX7_takeInTitle 10 = .ok (.iload_n 1, 1) := by decide +kernel
theorem dX7_takeInTitle_11 : decode cX7_takeInTitle 11 = .ok (.invokevirtual 224, 3) := by decide +kernel
theorem dX7_takeInTitle_14 : decode cX7_takeInTitle 14 = .ok (.goto 25, 3) := by decide +kernel
theorem dX7_takeInTitle_17 : decode cX7_takeInTitle 17 = .ok (.iload_n 1, 1) := by decide +kernel
theorem dX7_takeInTitle_18 : decode cX7_takeInTitle 18 = .ok (.bipush 7, 2) := by decide +kernel
theorem dX7_takeInTitle_20 : decode cX7_takeInTitle 20 = .ok (.if_icmp .ne 19, 3) := by decide +kernel
theorem dX7_takeInTitle_23 : decode cX7_takeInTitle 23 = .ok (.aload_n 0, 1) := by decide +kernel
theorem dX7_takeInTitle_24 : decode cX7_takeInTitle 24 = .ok (.getfield 33, 3) := by decide +kernel
theorem dX7_takeInTitle_27 : decode cX7_takeInTitle 27 = .ok (.aload_n 0, 1) := by decide +kernel
theorem dX7_takeInTitle_28 : decode cX7_takeInTitle 28 = .ok (.getfield 37, 3) := by decide +kernel
theorem dX7_takeInTitle_31 : decode cX7_takeInTitle 31 = .ok (.invokevirtual 225, 3) := by decide +kernel
theorem dX7_takeInTitle_34 : decode cX7_takeInTitle 34 = .ok (.aload_n 0, 1) := by decide +kernel
theorem dX7_takeInTitle_35 : decode cX7_takeInTitle 35 = .ok (.iconst 0, 1) := by decide +kernel
theorem dX7_takeInTitle_36 : decode cX7_takeInTitle 36 = .ok (.putfield 47, 3) := by decide +kernel
theorem dX7_takeInTitle_39 : decode cX7_takeInTitle 39 = .ok (.return_, 1) := by decide +kernel
theorem dX7_doSequence_0 : decode cX7_doSequence 0 = .ok (.aload_n 0, 1) := by decide +kernel
theorem dX7_doSequence_1 : decode cX7_doSequence 1 = .ok (.iconst 0, 1) := by decide +kernel
theorem dX7_doSequence_2 : decode cX7_doSequence 2 = .ok (.putfield 47, 3) := by decide +kernel
theorem dX7_doSequence_5 : decode cX7_doSequence 5 = .ok (.aload_n 0, 1) := by decide +kernel
theorem dX7_doSequence_6 : decode cX7_doSequence 6 = .ok (.getfield 26, 3) := by decide +kernel
theorem dX7_doSequence_9 : decode cX7_doSequence 9 = .ok (.getfield 221, 3) := by decide +kernel
theorem dX7_doSequence_12 : decode cX7_doSequence 12 = .ok (.ifCond .eq 9, 3) := by decide +kernel
theorem dX7_doSequence_15 : decode cX7_doSequence 15 = .ok (.aload_n 0, 1) := by decide +kernel
theorem dX7_doSequence_16 : decode cX7_doSequence 16 = .ok (.iload_n 1, 1) := by decide +kernel
theorem dX7_doSequence_17 : decode cX7_doSequence 17 = .ok (.invokevirtual 229, 3) := by decide +kernel
theorem dX7_doSequence_20 : decode cX7_doSequence 20 = .ok (.return_, 1) := by decide +kernel
theorem dX7_doSequence_21 : decode cX7_doSequence 21 = .ok (.aload_n 0, 1) := by decide +kernel
theorem dX7_doSequence_22 : decode cX7_doSequence 22 = .ok (.getfield 26, 3) := by decide +kernel
theorem dX7_doSequence_25 : decode cX7_doSequence 25 = .ok (.iconst 0, 1) := by decide +kernel
theorem dX7_doSequence_26 : decode cX7_doSequence 26 = .ok (.invokevirtual 232, 3) := by decide +kernel
theorem dX7_doSequence_29 : decode cX7_doSequence 29 = .ok (.istore_n 2, 1) := by decide +kernel
theorem dX7_doSequence_30 : decode cX7_doSequence 30 = .ok (.aload_n 0, 1) := by decide +kernel
theorem dX7_doSequence_31 : decode cX7_doSequence 31 = .ok (.getfield 26, 3) := by decide +kernel
theorem dX7_doSequence_34 : decode cX7_doSequence 34 = .ok (.iconst 1, 1) := by decide +kernel
theorem dX7_doSequence_35 : decode cX7_doSequence 35 = .ok (.invokevirtual 232, 3) := by decide +kernel
theorem dX7_doSequence_38 : decode cX7_doSequence 38 = .ok (.istore_n 3, 1) := by decide +kernel
theorem dX7_doSequence_39 : decode cX7_doSequence 39 = .ok (.iload_n 2, 1) := by decide +kernel
theorem dX7_doSequence_40 : decode cX7_doSequence 40 = .ok (.ifCond .ne 7, 3) := by decide +kernel
theorem dX7_doSequence_43 : decode cX7_doSequence 43 = .ok (.iconst 1, 1) := by decide +kernel
theorem dX7_doSequence_44 : decode cX7_doSequence 44 = .ok (.goto 4, 3) := by decide +kernel
theorem dX7_doSequence_47 : decode cX7_doSequence 47 = .ok (.iload_n 2, 1) := by decide +kernel
theorem dX7_doSequence_48 : decode cX7_doSequence 48 = .ok (.istore 4, 2) := by decide +kernel
theorem dX7_doSequence_50 : decode cX7_doSequence 50 = .ok (.iload_n 1, 1) := by decide +kernel
theorem dX7_doSequence_51 : decode cX7_doSequence 51 = .ok (.tableswitch 576 64 117 #[404, 229, 241, 253, 265, 277, 297, 317, 345, 576, 370, 381, 428, 440, 576, 576, 416, 576, 576, 452, 464, 576, 576, 576, 392, 576, 576, 576, 576, 576, 576, 576, 576, 576, 476, 576, 331, 576, 345, 541, 552, 576, 576, 576, 560, 488, 568, 576, 576, 576, 495, 521, 576, 531], 229) := by decide +kernel
theorem dX7_doSequence_280 : decode cX7_doSequence 280 = .ok (.aload_n 0, 1) := by decide +kernel
theorem dX7_doSequence_281 : decode cX7_doSequence 281 = .ok (.getfield 12, 3) := by decide +kernel
theorem dX7_doSequence_284 : decode cX7_doSequence 284 = .ok (.iload 4, 2) := by decide +kernel
theorem dX7_doSequence_286 : decode cX7_doSequence 286 = .ok (.invokevirtual 235, 3) := by decide +kernel
theorem dX7_doSequence_289 : decode cX7_doSequence 289 = .ok (.goto 338, 3) := by decide +kernel
theorem dX7_doSequence_292 : decode cX7_doSequence 292 = .ok (.aload_n 0, 1) := by decide +kernel
theorem dX7_doSequence_293 : decode cX7_doSequence 293 = .ok (.getfield 12, 3) := by decide +kernel
theorem dX7_doSequence_296 : decode cX7_doSequence 296 = .ok (.iload 4, 2) := by decide +kernel
theorem dX7_doSequence_298 : decode cX7_doSequence 298 = .ok (.invokevirtual 238, 3) := by decide +kernel
theorem dX7_doSequence_301 : decode cX7_doSequence 301 = .ok (.goto 326, 3) := by decide +kernel
theorem dX7_doSequence_304 : decode cX7_doSequence 304 = .ok (.aload_n 0, 1) := by decide +kernel
theorem dX7_doSequence_305 : decode cX7_doSequence 305 = .ok (.getfield 12, 3) := by decide +kernel
theorem dX7_doSequence_308 : decode cX7_doSequence 308 = .ok (.iload 4, 2) := by decide +kernel
theorem dX7_doSequence_310 : decode cX7_doSequence 310 = .ok (.invokevirtual 241, 3) := by decide +kernel
theorem dX7_doSequence_313 : decode cX7_doSequence 313 = .ok (.goto 314, 3) := by decide +kernel
theorem dX7_doSequence_316 : decode cX7_doSequence 316 = .ok (.aload_n 0, 1) := by decide +kernel
theorem dX7_doSequence_317 : decode cX7_doSequence 317 = .ok (.getfield 12, 3) := by decide +kernel
theorem dX7_doSequence_320 : decode cX7_doSequence 320 = .ok (.iload 4, 2) := by decide +kernel
theorem dX7_doSequence_322 : decode cX7_doSequence 322 = .ok (.invokevirtual 187, 3) := by decide +kernel
theorem dX7_doSequence_325 : decode cX7_doSequence 325 = .ok (.goto 302, 3) := by decide +kernel
theorem dX7_doSequence_328 : decode cX7_doSequence 328 = .ok (.aload_n 0, 1) := by decide +kernel
theorem dX7_doSequence_329 : decode cX7_doSequence 329 = .ok (.getfield 12, 3) := by decide +kernel
theorem dX7_doSequence_332 : decode cX7_doSequence 332 = .ok (.iload 4, 2) := by decide +kernel
theorem dX7_doSequence_334 : decode cX7_doSequence 334 = .ok (.invokevirtual 238, 3) := by decide +kernel
theorem dX7_doSequence_337 : decode cX7_doSequence 337 = .ok (.aload_n 0, 1) := by decide +kernel
theorem dX7_doSequence_338 : decode cX7_doSequence 338 = .ok (.getfield 12, 3) := by decide +kernel
theorem dX7_doSequence_341 : decode cX7_doSequence 341 = .ok (.iconst 0, 1) := by decide +kernel
theorem dX7_doSequence_342 : decode cX7_doSequence 342 = .ok (.invokevirtual 196, 3) := by decide +kernel
theorem dX7_doSequence_345 : decode cX7_doSequence 345 = .ok (.goto 282, 3) := by decide +kernel
theorem dX7_doSequence_348 : decode cX7_doSequence 348 = .ok (.aload_n 0, 1) := by decide +kernel
theorem dX7_doSequence_349 : decode cX7_doSequence 349 = .ok (.getfield 12, 3) := by decide +kernel
theorem dX7_doSequence_352 : decode cX7_doSequence 352 = .ok (.iload 4, 2) := by decide +kernel
theorem dX7_doSequence_354 : decode cX7_doSequence 354 = .ok (.invokevirtual 235, 3) := by decide +kernel
theorem dX7_doSequence_357 : decode cX7_doSequence 357 = .ok (.aload_n 0, 1) := by decide +kernel
theorem dX7_doSequence_358 : decode cX7_doSequence 358 = .ok (.getfield 12, 3) := by decide +kernel
theorem dX7_doSequence_361 : decode cX7_doSequence 361 = .ok (.iconst 0, 1) := by decide +kernel
theorem dX7_doSequence_362 : decode cX7_doSequence 362 = .ok (.invokevirtual 196, 3) := by decide +kernel
theorem dX7_doSequence_365 : decode cX7_doSequence 365 = .ok (.goto 262, 3) := by decide +kernel
theorem dX7_doSequence_368 : decode cX7_doSequence 368 = .ok (.aload_n 0, 1) := by decide +kernel
theorem dX7_doSequence_369 : decode cX7_doSequence 369 = .ok (.getfield 12, 3) := by decide +kernel
theorem dX7_doSequence_372 : decode cX7_doSequence 372 = .ok (.iload 4, 2) := by decide +kernel
theorem dX7_doSequence_374 : decode cX7_doSequence 374 = .ok (.iconst 1, 1) := by decide +kernel
theorem dX7_doSequence_375 : decode cX7_doSequence 375 = .ok (.isub, 1) := by decide +kernel
theorem dX7_doSequence_376 : decode cX7_doSequence 376 = .ok (.invokevirtual 196, 3) := by decide +kernel
theorem dX7_doSequence_379 : decode cX7_doSequence 379 = .ok (.goto 248, 3) := by decide +kernel
theorem dX7_doSequence_382 : decode cX7_doSequence 382 = .ok (.aload_n 0, 1) := by decide +kernel
theorem dX7_doSequence_383 : decode cX7_doSequence 383 = .ok (.getfield 12, 3) := by decide +kernel
theorem dX7_doSequence_386 : decode cX7_doSequence 386 = .ok (.iload 4, 2) := by decide +kernel
theorem dX7_doSequence_388 : decode cX7_doSequence 388 = .ok (.iconst 1, 1) := by decide +kernel
theorem dX7_doSequence_389 : decode cX7_doSequence 389 = .ok (.isub, 1) := by decide +kernel
theorem dX7_doSequence_390 : decode cX7_doSequence 390 = .ok (.invokevirtual 244, 3) := by decide +kernel
theorem dX7_doSequence_393 : decode cX7_doSequence 393 = .ok (.goto 234, 3) := by decide +kernel
theorem dX7_doSequence_396 : decode cX7_doSequence 396 = .ok (.aload_n 0, 1) := by decide +kernel
theorem dX7_doSequence_397 : decode cX7_doSequence 397 = .ok (.getfield 12, 3) := by decide +kernel
theorem dX7_doSequence_400 : decode cX7_doSequence 400 = .ok (.iload 4, 2) := by decide +kernel
theorem dX7_doSequence_402 : decode cX7_doSequence 402 = .ok (.iconst 1, 1) := by decide +kernel
theorem dX7_doSequence_403 : decode cX7_doSequence 403 = .ok (.isub, 1) := by decide +kernel
theorem dX7_doSequence_404 : decode cX7_doSequence 404 = .ok (.iload_n 3, 1) := by decide +kernel
theorem dX7_doSequence_405 : decode cX7_doSequence 405 = .ok (.ifCond .ne 7, 3) := by decide +kernel
theorem dX7_doSequence_408 : decode cX7_doSequence 408 = .ok (.iconst 0, 1) := by decide +kernel
theorem dX7_doSequence_409 : decode cX7_doSequence 409 = .ok (.goto 6, 3) := by decide +kernel
theorem dX7_doSequence_412 : decode cX7_doSequence 412 = .ok (.iload_n 3, 1) := by decide +kernel
theorem dX7_doSequence_413 : decode cX7_doSequence 413 = .ok (.iconst 1, 1) := by decide +kernel
theorem dX7_doSequence_414 : decode cX7_doSequence 414 = .ok (.isub, 1) := by decide +kernel
theorem dX7_doSequence_415 : decode cX7_doSequence 415 = .ok (.invokevirtual 247, 3) := by decide +kernel
theorem dX7_doSequence_418 : decode cX7_doSequence 418 = .ok (.goto 209, 3) := by decide +kernel
theorem dX7_doSequence_421 : decode cX7_doSequence 421 = .ok (.aload_n 0, 1) := by decide +kernel
theorem dX7_doSequence_422 : decode cX7_doSequence 422 = .ok (.getfield 12, 3) := by decide +kernel
theorem dX7_doSequence_425 : decode cX7_doSequence 425 = .ok (.iload_n 2, 1) := by decide +kernel
theorem dX7_doSequence_426 : decode cX7_doSequence 426 = .ok (.invokevirtual 251, 3) := by decide +kernel
theorem dX7_doSequence_429 : decode cX7_doSequence 429 = .ok (.goto 198, 3) := by decide +kernel
theorem dX7_doSequence_432 : decode cX7_doSequence 432 = .ok (.aload_n 0, 1) := by decide +kernel
theorem dX7_doSequence_433 : decode cX7_doSequence 433 = .ok (.getfield 12, 3) := by decide +kernel
theorem dX7_doSequence_436 : decode cX7_doSequence 436 = .ok (.iload_n 2, 1) := by decide +kernel
theorem dX7_doSequence_437 : decode cX7_doSequence 437 = .ok (.invokevirtual 254, 3) := by decide +kernel
theorem dX7_doSequence_440 : decode cX7_doSequence 440 = .ok (.goto 187, 3) := by decide +kernel
theorem dX7_doSequence_443 : decode cX7_doSequence 443 = .ok (.aload_n 0, 1) := by decide +kernel
theorem dX7_doSequence_444 : decode cX7_doSequence 444 = .ok (.getfield 12, 3) := by decide +kernel
theorem dX7_doSequence_447 : decode cX7_doSequence 447 = .ok (.iload 4, 2) := by decide +kernel
theorem dX7_doSequence_449 : decode cX7_doSequence 449 = .ok (.invokevirtual 257, 3) := by decide +kernel
theorem dX7_doSequence_452 : decode cX7_doSequence 452 = .ok (.goto 175, 3) := by decide +kernel
theorem dX7_doSequence_455 : decode cX7_doSequence 455 = .ok (.aload_n 0, 1) := by decide +kernel
theorem dX7_doSequence_456 : decode cX7_doSequence 456 = .ok (.getfield 12, 3) := by decide +kernel
theorem dX7_doSequence_459 : decode cX7_doSequence 459 = .ok (.iload 4, 2) := by decide +kernel
theorem dX7_doSequence_461 : decode cX7_doSequence 461 = .ok (.invokevirtual 260, 3) := by decide +kernel
theorem dX7_doSequence_464 : decode cX7_doSequence 464 = .ok (.goto 163, 3) := by decide +kernel
theorem dX7_doSequence_467 : decode cX7_doSequence 467 = .ok (.aload_n 0, 1) := by decide +kernel
theorem dX7_doSequence_468 : decode cX7_doSequence 468 = .ok (.getfield 12, 3) := by decide +kernel
theorem dX7_doSequence_471 : decode cX7_doSequence 471 = .ok (.iload 4, 2) := by decide +kernel
theorem dX7_doSequence_473 : decode cX7_doSequence 473 = .ok (.invokevirtual 263, 3) := by decide +kernel
theorem dX7_doSequence_476 : decode cX7_doSequence 476 = .ok (.goto 151, 3) := by decide +kernel
theorem dX7_doSequence_479 : decode cX7_doSequence 479 = .ok (.aload_n 0, 1) := by decide +kernel
theorem dX7_doSequence_480 : decode cX7_doSequence 480 = .ok (.getfield 12, 3) := by decide +kernel
theorem dX7_doSequence_483 : decode cX7_doSequence 483 = .ok (.iload 4, 2) := by decide +kernel
theorem dX7_doSequence_485 : decode cX7_doSequence 485 = .ok (.invokevirtual 266, 3) := by decide +kernel
theorem dX7_doSequence_488 : decode cX7_doSequence 488 = .ok (.goto 139, 3) := by decide +kernel
theorem dX7_doSequence_491 : decode cX7_doSequence 491 = .ok (.aload_n 0, 1) := by decide +kernel
theorem dX7_doSequence_492 : decode cX7_doSequence 492 = .ok (.getfield 12, 3) := by decide +kernel
theorem dX7_doSequence_495 : decode cX7_doSequence 495 = .ok (.iload 4, 2) := by decide +kernel
theorem dX7_doSequence_497 : decode cX7_doSequence 497 = .ok (.invokevirtual 269, 3) := by decide +kernel
theorem dX7_doSequence_500 : decode cX7_doSequence 500 = .ok (.goto 127, 3) := by decide +kernel
theorem dX7_doSequence_503 : decode cX7_doSequence 503 = .ok (.aload_n 0, 1) := by decide +kernel
theorem dX7_doSequence_504 : decode cX7_doSequence 504 = .ok (.getfield 12, 3) := by decide +kernel
theorem dX7_doSequence_507 : decode cX7_doSequence 507 = .ok (.iload 4, 2) := by decide +kernel
theorem dX7_doSequence_509 : decode cX7_doSequence 509 = .ok (.invokevirtual 272, 3) := by decide +kernel
theorem dX7_doSequence_512 : decode cX7_doSequence 512 = .ok (.goto 115, 3) := by decide +kernel
theorem dX7_doSequence_515 : decode cX7_doSequence 515 = .ok (.aload_n 0, 1) := by decide +kernel
theorem dX7_doSequence_516 : decode cX7_doSequence 516 = .ok (.getfield 12, 3) := by decide +kernel
theorem dX7_doSequence_519 : decode cX7_doSequence 519 = .ok (.iload 4, 2) := by decide +kernel
theorem dX7_doSequence_521 : decode cX7_doSequence 521 = .ok (.invokevirtual 275, 3) := by decide +kernel
theorem dX7_doSequence_524 : decode cX7_doSequence 524 = .ok (.goto 103, 3) := by decide +kernel
theorem dX7_doSequence_527 : decode cX7_doSequence 527 = .ok (.aload_n 0, 1) := by decide +kernel
theorem dX7_doSequence_528 : decode cX7_doSequence 528 = .ok (.getfield 12, 3) := by decide +kernel
theorem dX7_doSequence_531 : decode cX7_doSequence 531 = .ok (.iload 4, 2) := by decide +kernel
theorem dX7_doSequence_533 : decode cX7_doSequence 533 = .ok (.invokevirtual 278, 3) := by decide +kernel
theorem dX7_doSequence_536 : decode cX7_doSequence 536 = .ok (.goto 91, 3) := by decide +kernel
theorem dX7_doSequence_539 : decode cX7_doSequence 539 = .ok (.aload_n 0, 1) := by decide +kernel
theorem dX7_doSequence_540 : decode cX7_doSequence 540 = .ok (.invokevirtual 281, 3) := by decide +kernel
theorem dX7_doSequence_543 : decode cX7_doSequence 543 = .ok (.goto 84, 3) := by decide +kernel
theorem dX7_doSequence_546 : decode cX7_doSequence 546 = .ok (.aload_n 0, 1) := by decide +kernel
theorem dX7_doSequence_547 : decode cX7_doSequence 547 = .ok (.getfield 12, 3) := by decide +kernel
theorem dX7_doSequence_550 : decode cX7_doSequence 550 = .ok (.iload 4, 2) := by decide +kernel
theorem dX7_doSequence_552 : decode cX7_doSequence 552 = .ok (.iconst 1, 1) := by decide +kernel
theorem dX7_doSequence_553 : decode cX7_doSequence 553 = .ok (.isub, 1) := by decide +kernel
theorem dX7_doSequence_554 : decode cX7_doSequence 554 = .ok (.iload_n 3, 1) := by decide +kernel
theorem dX7_doSequence_555 : decode cX7_doSequence 555 = .ok (.ifCond .ne 8, 3) := by decide +kernel
theorem dX7_doSequence_558 : decode cX7_doSequence 558 = .ok (.bipush 7, 2) := by decide +kernel
theorem dX7_doSequence_560 : decode cX7_doSequence 560 = .ok (.goto 6, 3) := by decide +kernel
theorem dX7_doSequence_563 : decode cX7_doSequence 563 = .ok (.iload_n 3, 1) := by decide +kernel
theorem dX7_doSequence_564 : decode cX7_doSequence 564 = .ok (.iconst 1, 1) := by decide +kernel
theorem dX7_doSequence_565 : decode cX7_doSequence 565 = .ok (.isub, 1) := by decide +kernel
theorem dX7_doSequence_566 : decode cX7_doSequence 566 = .ok (.invokevirtual 284, 3) := by decide +kernel
theorem dX7_doSequence_569 : decode cX7_doSequence 569 = .ok (.goto 58, 3) := by decide +kernel
theorem dX7_doSequence_572 : decode cX7_doSequence 572 = .ok (.aload_n 0, 1) := by decide +kernel
theorem dX7_doSequence_573 : decode cX7_doSequence 573 = .ok (.getfield 12, 3) := by decide +kernel
theorem dX7_doSequence_576 : decode cX7_doSequence 576 = .ok (.invokevirtual 199, 3) := by decide +kernel
theorem dX7_doSequence_579 : decode cX7_doSequence 579 = .ok (.goto 48, 3) := by decide +kernel
theorem dX7_doSequence_582 : decode cX7_doSequence 582 = .ok (.aload_n 0, 1) := by decide +kernel
theorem dX7_doSequence_583 : decode cX7_doSequence 583 = .ok (.getfield 12, 3) := by decide +kernel
theorem dX7_doSequence_586 : decode cX7_doSequence 586 = .ok (.invokevirtual 202, 3) := by decide +kernel
theorem dX7_doSequence_589 : decode cX7_doSequence 589 = .ok (.goto 38, 3) := by decide +kernel
theorem dX7_doSequence_592 : decode cX7_doSequence 592 = .ok (.aload_n 0, 1) := by decide +kernel
theorem dX7_doSequence_593 : decode cX7_doSequence 593 = .ok (.getfield 12, 3) := by decide +kernel
theorem dX7_doSequence_596 : decode cX7_doSequence 596 = .ok (.iload_n 2, 1) := by decide +kernel
theorem dX7_doSequence_597 : decode cX7_doSequence 597 = .ok (.invokevirtual 287, 3) := by decide +kernel
theorem dX7_doSequence_600 : decode cX7_doSequence 600 = .ok (.goto 27, 3) := by decide +kernel
theorem dX7_doSequence_603 : decode cX7_doSequence 603 = .ok (.aload_n 0, 1) := by decide +kernel
theorem dX7_doSequence_604 : decode cX7_doSequence 604 = .ok (.iconst 1, 1) := by decide +kernel
theorem dX7_doSequence_605 : decode cX7_doSequence 605 = .ok (.invokevirtual 290, 3) := by decide +kernel
theorem dX7_doSequence_608 : decode cX7_doSequence 608 = .ok (.goto 19, 3) := by decide +kernel
theorem dX7_doSequence_611 : decode cX7_doSequence 611 = .ok (.aload_n 0, 1) := by decide +kernel
theorem dX7_doSequence_612 : decode cX7_doSequence 612 = .ok (.iconst 0, 1) := by decide +kernel
theorem dX7_doSequence_613 : decode cX7_doSequence 613 = .ok (.invokevirtual 290, 3) := by decide +kernel
theorem dX7_doSequence_616 : decode cX7_doSequence 616 = .ok (.goto 11, 3) := by decide +kernel
theorem dX7_doSequence_619 : decode cX7_doSequence 619 = .ok (.aload_n 0, 1) := by decide +kernel
theorem dX7_doSequence_620 : decode cX7_doSequence 620 = .ok (.iload_n 2, 1) := by decide +kernel
theorem dX7_doSequence_621 : decode cX7_doSequence 621 = .ok (.invokevirtual 294, 3) := by decide +kernel
theorem dX7_doSequence_624 : decode cX7_doSequence 624 = .ok (.goto 3, 3) := by decide +kernel
theorem dX7_doSequence_627 : decode cX7_doSequence 627 = .ok (.return_, 1) := by decide +kernel
theorem dX7_doPrivate_0 : decode cX7_doPrivate 0 = .ok (.iload_n 1, 1) := by decide +kernel
theorem dX7_doPrivate_1 : decode cX7_doPrivate 1 = .ok (.bipush 104, 2) := by decide +kernel
theorem dX7_doPrivate_3 : decode cX7_doPrivate 3 = .ok (.if_icmp .eq 10, 3) := by decide +kernel
theorem dX7_doPrivate_6 : decode cX7_doPrivate 6 = .ok (.iload_n 1, 1) := by decide +kernel
theorem dX7_doPrivate_7 : decode cX7_doPrivate 7 = .ok (.bipush 108, 2) := by decide +kernel
theorem dX7_doPrivate_9 : decode cX7_doPrivate 9 = .ok (.if_icmp .eq 4, 3) := by decide +kernel
theorem dX7_doPrivate_12 : decode cX7_doPrivate 12 = .ok (.return_, 1) := by decide +kernel
theorem dX7_doPrivate_13 : decode cX7_doPrivate 13 = .ok (.iconst 0, 1) := by decide +kernel
theorem dX7_doPrivate_14 : decode cX7_doPrivate 14 = .ok (.istore_n 2, 1) := by decide +kernel
theorem dX7_doPrivate_15 : decode cX7_doPrivate 15 = .ok (.iload_n 2, 1) := by decide +kernel
theorem dX7_doPrivate_16 : decode cX7_doPrivate 16 = .ok (.aload_n 0, 1) := by decide +kernel
theorem dX7_doPrivate_17 : decode cX7_doPrivate 17 = .ok (.getfield 26, 3) := by decide +kernel
theorem dX7_doPrivate_20 : decode cX7_doPrivate 20 = .ok (.invokevirtual 297, 3) := by decide +kernel
theorem dX7_doPrivate_23 : decode cX7_doPrivate 23 = .ok (.if_icmp .ge 35, 3) := by decide +kernel
theorem dX7_doPrivate_26 : decode cX7_doPrivate 26 = .ok (.aload_n 0, 1) := by decide +kernel
theorem dX7_doPrivate_27 : decode cX7_doPrivate 27 = .ok (.getfield 12, 3) := by decide +kernel
theorem dX7_doPrivate_30 : decode cX7_doPrivate 30 = .ok (.aload_n 0, 1) := by decide +kernel
theorem dX7_doPrivate_31 : decode cX7_doPrivate 31 = .ok (.getfield 26, 3) := by decide +kernel
theorem dX7_doPrivate_34 : decode cX7_doPrivate 34 = .ok (.iload_n 2, 1) := by decide +kernel
theorem dX7_doPrivate_35 : decode cX7_doPrivate 35 = .ok (.invokevirtual 232, 3) := by decide +kernel
theorem dX7_doPrivate_38 : decode cX7_doPrivate 38 = .ok (.iload_n 1, 1) := by decide +kernel
theorem dX7_doPrivate_39 : decode cX7_doPrivate 39 = .ok (.bipush 104, 2) := by decide +kernel
theorem dX7_doPrivate_41 : decode cX7_doPrivate 41 = .ok (.if_icmp .ne 7, 3) := by decide +kernel
theorem dX7_doPrivate_44 : decode cX7_doPrivate 44 = .ok (.iconst 1, 1) := by decide +kernel
theorem dX7_doPrivate_45 : decode cX7_doPrivate 45 = .ok (.goto 4, 3) := by decide +kernel
theorem dX7_doPrivate_48 : decode cX7_doPrivate 48 = .ok (.iconst 0, 1) := by decide +kernel
theorem dX7_doPrivate_49 : decode cX7_doPrivate 49 = .ok (.invokevirtual 300, 3) := by decide +kernel
theorem dX7_doPrivate_52 : decode cX7_doPrivate 52 = .ok (.iinc 2 1, 3) := by decide +kernel
theorem dX7_doPrivate_55 : decode cX7_doPrivate 55 = .ok (.goto (-40), 3) := by decide +kernel
theorem dX7_doPrivate_58 : decode cX7_doPrivate 58 = .ok (.return_, 1) := by decide +kernel
theorem dX7_paintAll_0 : decode cX7_paintAll 0 = .ok (.iconst 1, 1) := by decide +kernel
theorem dX7_paintAll_1 : decode cX7_paintAll 1 = .ok (.aload_n 0, 1) := by decide +kernel
theorem dX7_paintAll_2 : decode cX7_paintAll 2 = .ok (.getfield 26, 3) := by decide +kernel
theorem dX7_paintAll_5 : decode cX7_paintAll 5 = .ok (.invokevirtual 297, 3) := by decide +kernel
theorem dX7_paintAll_8 : decode cX7_paintAll 8 = .ok (.invokestatic 304, 3) := by decide +kernel
theorem dX7_paintAll_11 : decode cX7_paintAll 11 = .ok (.istore_n 1, 1) := by decide +kernel
theorem dX7_paintAll_12 : decode cX7_paintAll 12 = .ok (.iconst 0, 1) := by decide +kernel
theorem dX7_paintAll_13 : decode cX7_paintAll 13 = .ok (.istore_n 2, 1) := by decide +kernel
theorem dX7_paintAll_14 : decode cX7_paintAll 14 = .ok (.iload_n 2, 1) := by decide +kernel
theorem dX7_paintAll_15 : decode cX7_paintAll 15 = .ok (.iload_n 1, 1) := by decide +kernel
theorem dX7_paintAll_16 : decode cX7_paintAll 16 = .ok (.if_icmp .ge 27, 3) := by decide +kernel
theorem dX7_paintAll_19 : decode cX7_paintAll 19 = .ok (.aload_n 0, 1) := by decide +kernel
theorem dX7_paintAll_20 : decode cX7_paintAll 20 = .ok (.getfield 12, 3) := by decide +kernel
theorem dX7_paintAll_23 : decode cX7_paintAll 23 = .ok (.getfield 58, 3) := by decide +kernel
theorem dX7_paintAll_26 : decode cX7_paintAll 26 = .ok (.aload_n 0, 1) := by decide +kernel
theorem dX7_paintAll_27 : decode cX7_paintAll 27 = .ok (.getfield 26, 3) := by decide +kernel
theorem dX7_paintAll_30 : decode cX7_paintAll 30 = .ok (.iload_n 2, 1) := by decide +kernel
theorem dX7_paintAll_31 : decode cX7_paintAll 31 = .ok (.invokevirtual 232, 3) := by decide +kernel
theorem dX7_paintAll_34 : decode cX7_paintAll 34 = .ok (.invokevirtual 309, 3) := by decide +kernel
theorem dX7_paintAll_37 : decode cX7_paintAll 37 = .ok (.iinc 2 1, 3) := by decide +kernel
theorem dX7_paintAll_40 : decode cX7_paintAll 40 = .ok (.goto (-26), 3) := by decide +kernel
theorem dX7_paintAll_43 : decode cX7_paintAll 43 = .ok (.return_, 1) := by decide +kernel
theorem dX7_switchInsert_0 : decode cX7_switchInsert 0 = .ok (.iconst 0, 1) := by decide +kernel
theorem dX7_switchInsert_1 : decode cX7_switchInsert 1 = .ok (.istore_n 2, 1) := by decide +kernel
theorem dX7_switchInsert_2 : decode cX7_switchInsert 2 = .ok (.iload_n 2, 1) := by decide +kernel
theorem dX7_switchInsert_3 : decode cX7_switchInsert 3 = .ok (.aload_n 0, 1) := by decide +kernel
theorem dX7_switchInsert_4 : decode cX7_switchInsert 4 = .ok (.getfield 26, 3) := by decide +kernel
theorem dX7_switchInsert_7 : decode cX7_switchInsert 7 = .ok (.invokevirtual 297, 3) := by decide +kernel
theorem dX7_switchInsert_10 : decode cX7_switchInsert 10 = .ok (.if_icmp .ge 29, 3) := by decide +kernel
theorem dX7_switchInsert_13 : decode cX7_switchInsert 13 = .ok (.aload_n 0, 1) := by decide +kernel
theorem dX7_switchInsert_14 : decode cX7_switchInsert 14 = .ok (.getfield 26, 3) := by decide +kernel
theorem dX7_switchInsert_17 : decode cX7_switchInsert 17 = .ok (.iload_n 2, 1) := by decide +kernel
theorem dX7_switchInsert_18 : decode cX7_switchInsert 18 = .ok (.invokevirtual 232, 3) := by decide +kernel
theorem dX7_switchInsert_21 : decode cX7_switchInsert 21 = .ok (.iconst 4, 1) := by decide +kernel
theorem dX7_switchInsert_22 : decode cX7_switchInsert 22 = .ok (.if_icmp .ne 11, 3) := by decide +kernel
theorem dX7_switchInsert_25 : decode cX7_switchInsert 25 = .ok (.aload_n 0, 1) := by decide +kernel
theorem dX7_switchInsert_26 : decode cX7_switchInsert 26 = .ok (.getfield 12, 3) := by decide +kernel
theorem dX7_switchInsert_29 : decode cX7_switchInsert 29 = .ok (.iload_n 1, 1) := by decide +kernel
theorem dX7_switchInsert_30 : decode cX7_switchInsert 30 = .ok (.putfield 77, 3) := by decide +kernel
theorem dX7_switchInsert_33 : decode cX7_switchInsert 33 = .ok (.iinc 2 1, 3) := by decide +kernel
