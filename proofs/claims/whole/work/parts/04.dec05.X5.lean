theorem dX5_init_0 : decode cX5_init 0 = .ok (.aload_n 0, 1) := by decide +kernel
theorem dX5_init_1 : decode cX5_init 1 = .ok (.invokespecial 3, 3) := by decide +kernel
theorem dX5_init_4 : decode cX5_init 4 = .ok (.aload_n 0, 1) := by decide +kernel
theorem dX5_init_5 : decode cX5_init 5 = .ok (.new 9, 3) := by decide +kernel
theorem dX5_init_8 : decode cX5_init 8 = .ok (.dup, 1) := by decide +kernel
theorem dX5_init_9 : decode cX5_init 9 = .ok (.invokespecial 11, 3) := by decide +kernel
theorem dX5_init_12 : decode cX5_init 12 = .ok (.putfield 12, 3) := by decide +kernel
theorem dX5_init_15 : decode cX5_init 15 = .ok (.aload_n 0, 1) := by decide +kernel
theorem dX5_init_16 : decode cX5_init 16 = .ok (.new 9, 3) := by decide +kernel
theorem dX5_init_19 : decode cX5_init 19 = .ok (.dup, 1) := by decide +kernel
theorem dX5_init_20 : decode cX5_init 20 = .ok (.invokespecial 11, 3) := by decide +kernel
theorem dX5_init_23 : decode cX5_init 23 = .ok (.putfield 18, 3) := by decide +kernel
theorem dX5_init_26 : decode cX5_init 26 = .ok (.aload_n 0, 1) := by decide +kernel
theorem dX5_init_27 : decode cX5_init 27 = .ok (.new 21, 3) := by decide +kernel
theorem dX5_init_30 : decode cX5_init 30 = .ok (.dup, 1) := by decide +kernel
theorem dX5_init_31 : decode cX5_init 31 = .ok (.invokespecial 23, 3) := by decide +kernel
theorem dX5_init_34 : decode cX5_init 34 = .ok (.putfield 24, 3) := by decide +kernel
theorem dX5_init_37 : decode cX5_init 37 = .ok (.aload_n 0, 1) := by decide +kernel
theorem dX5_init_38 : decode cX5_init 38 = .ok (.new 21, 3) := by decide +kernel
theorem dX5_init_41 : decode cX5_init 41 = .ok (.dup, 1) := by decide +kernel
theorem dX5_init_42 : decode cX5_init 42 = .ok (.invokespecial 23, 3) := by decide +kernel
theorem dX5_init_45 : decode cX5_init 45 = .ok (.putfield 28, 3) := by decide +kernel
theorem dX5_init_48 : decode cX5_init 48 = .ok (.return_, 1) := by decide +kernel
theorem dX5_reset_0 : decode cX5_reset 0 = .ok (.aload_n 0, 1) := by decide +kernel
theorem dX5_reset_1 : decode cX5_reset 1 = .ok (.getfield 12, 3) := by decide +kernel
theorem dX5_reset_4 : decode cX5_reset 4 = .ok (.iconst 0, 1) := by decide +kernel
theorem dX5_reset_5 : decode cX5_reset 5 = .ok (.bipush 95, 2) := by decide +kernel
theorem dX5_reset_7 : decode cX5_reset 7 = .ok (.invokevirtual 31, 3) := by decide +kernel
theorem dX5_reset_10 : decode cX5_reset 10 = .ok (.aload_n 0, 1) := by decide +kernel
theorem dX5_reset_11 : decode cX5_reset 11 = .ok (.getfield 18, 3) := by decide +kernel
theorem dX5_reset_14 : decode cX5_reset 14 = .ok (.iconst 0, 1) := by decide +kernel
theorem dX5_reset_15 : decode cX5_reset 15 = .ok (.bipush 95, 2) := by decide +kernel
theorem dX5_reset_17 : decode cX5_reset 17 = .ok (.invokevirtual 31, 3) := by decide +kernel
theorem dX5_reset_20 : decode cX5_reset 20 = .ok (.aload_n 0, 1) := by decide +kernel
theorem dX5_reset_21 : decode cX5_reset 21 = .ok (.getfield 24, 3) := by decide +kernel
theorem dX5_reset_24 : decode cX5_reset 24 = .ok (.invokevirtual 35, 3) := by decide +kernel
theorem dX5_reset_27 : decode cX5_reset 27 = .ok (.aload_n 0, 1) := by decide +kernel
theorem dX5_reset_28 : decode cX5_reset 28 = .ok (.getfield 28, 3) := by decide +kernel
theorem dX5_reset_31 : decode cX5_reset 31 = .ok (.invokevirtual 35, 3) := by decide +kernel
theorem dX5_reset_34 : decode cX5_reset 34 = .ok (.aload_n 0, 1) := by decide +kernel
theorem dX5_reset_35 : decode cX5_reset 35 = .ok (.iconst 0, 1) := by decide +kernel
theorem dX5_reset_36 : decode cX5_reset 36 = .ok (.putfield 38, 3) := by decide +kernel
theorem dX5_reset_39 : decode cX5_reset 39 = .ok (.aload_n 0, 1) := by decide +kernel
theorem dX5_reset_40 : decode cX5_reset 40 = .ok (.bipush 7, 2) := by decide +kernel
theorem dX5_reset_42 : decode cX5_reset 42 = .ok (.putfield 42, 3) := by decide +kernel
theorem dX5_reset_45 : decode cX5_reset 45 = .ok (.aload_n 0, 1) := by decide +kernel
theorem dX5_reset_46 : decode cX5_reset 46 = .ok (.sipush 272, 3) := by decide +kernel
theorem dX5_reset_49 : decode cX5_reset 49 = .ok (.putfield 45, 3) := by decide +kernel
theorem dX5_reset_52 : decode cX5_reset 52 = .ok (.aload_n 0, 1) := by decide +kernel
theorem dX5_reset_53 : decode cX5_reset 53 = .ok (.iconst 0, 1) := by decide +kernel
theorem dX5_reset_54 : decode cX5_reset 54 = .ok (.putfield 48, 3) := by decide +kernel
theorem dX5_reset_57 : decode cX5_reset 57 = .ok (.aload_n 0, 1) := by decide +kernel
theorem dX5_reset_58 : decode cX5_reset 58 = .ok (.iconst 1, 1) := by decide +kernel
theorem dX5_reset_59 : decode cX5_reset 59 = .ok (.putfield 52, 3) := by decide +kernel
theorem dX5_reset_62 : decode cX5_reset 62 = .ok (.aload_n 0, 1) := by decide +kernel
theorem dX5_reset_63 : decode cX5_reset 63 = .ok (.iconst 0, 1) := by decide +kernel
theorem dX5_reset_64 : decode cX5_reset 64 = .ok (.putfield 55, 3) := by decide +kernel
theorem dX5_reset_67 : decode cX5_reset 67 = .ok (.aload_n 0, 1) := by decide +kernel
theorem dX5_reset_68 : decode cX5_reset 68 = .ok (.iconst 0, 1) := by decide +kernel
theorem dX5_reset_69 : decode cX5_reset 69 = .ok (.putfield 58, 3) := by decide +kernel
theorem dX5_reset_72 : decode cX5_reset 72 = .ok (.aload_n 0, 1) := by decide +kernel
theorem dX5_reset_73 : decode cX5_reset 73 = .ok (.iconst (-1), 1) := by decide +kernel
theorem dX5_reset_74 : decode cX5_reset 74 = .ok (.putfield 61, 3) := by decide +kernel
theorem dX5_reset_77 : decode cX5_reset 77 = .ok (.return_, 1) := by decide +kernel
theorem dX5_page_0 : decode cX5_page 0 = .ok (.aload_n 0, 1) := by decide +kernel
theorem dX5_page_1 : decode cX5_page 1 = .ok (.getfield 55, 3) := by decide +kernel
theorem dX5_page_4 : decode cX5_page 4 = .ok (.ifCond .eq 10, 3) := by decide +kernel
theorem dX5_page_7 : decode cX5_page 7 = .ok (.aload_n 0, 1) := by decide +kernel
theorem dX5_page_8 : decode cX5_page 8 = .ok (.getfield 18, 3) := by decide +kernel
theorem dX5_page_11 : decode cX5_page 11 = .ok (.goto 7, 3) := by decide +kernel
theorem dX5_page_14 : decode cX5_page 14 = .ok (.aload_n 0, 1) := by decide +kernel
theorem dX5_page_15 : decode cX5_page 15 = .ok (.getfield 12, 3) := by decide +kernel
theorem dX5_page_18 : decode cX5_page 18 = .ok (.areturn, 1) := by decide +kernel
theorem dX5_save_0 : decode cX5_save 0 = .ok (.aload_n 0, 1) := by decide +kernel
theorem dX5_save_1 : decode cX5_save 1 = .ok (.getfield 28, 3) := by decide +kernel
theorem dX5_save_4 : decode cX5_save 4 = .ok (.aload_n 0, 1) := by decide +kernel
theorem dX5_save_5 : decode cX5_save 5 = .ok (.getfield 24, 3) := by decide +kernel
theorem dX5_save_8 : decode cX5_save 8 = .ok (.invokevirtual 64, 3) := by decide +kernel
theorem dX5_save_11 : decode cX5_save 11 = .ok (.return_, 1) := by decide +kernel
theorem dX5_restore_0 : decode cX5_restore 0 = .ok (.aload_n 0, 1) := by decide +kernel
theorem dX5_restore_1 : decode cX5_restore 1 = .ok (.getfield 24, 3) := by decide +kernel
theorem dX5_restore_4 : decode cX5_restore 4 = .ok (.aload_n 0, 1) := by decide +kernel
theorem dX5_restore_5 : decode cX5_restore 5 = .ok (.getfield 28, 3) := by decide +kernel
theorem dX5_restore_8 : decode cX5_restore 8 = .ok (.invokevirtual 64, 3) := by decide +kernel
theorem dX5_restore_11 : decode cX5_restore 11 = .ok (.return_, 1) := by decide +kernel
theorem dX5_print_0 : decode cX5_print 0 = .ok (.aload_n 0, 1) := by decide +kernel
theorem dX5_print_1 : decode cX5_print 1 = .ok (.getfield 24, 3) := by decide +kernel
theorem dX5_print_4 : decode cX5_print 4 = .ok (.getfield 68, 3) := by decide +kernel
theorem dX5_print_7 : decode cX5_print 7 = .ok (.ifCond .eq 15, 3) := by decide +kernel
theorem dX5_print_10 : decode cX5_print 10 = .ok (.aload_n 0, 1) := by decide +kernel
theorem dX5_print_11 : decode cX5_print 11 = .ok (.getfield 24, 3) := by decide +kernel
theorem dX5_print_14 : decode cX5_print 14 = .ok (.iconst 0, 1) := by decide +kernel
theorem dX5_print_15 : decode cX5_print 15 = .ok (.putfield 71, 3) := by decide +kernel
theorem dX5_print_18 : decode cX5_print 18 = .ok (.aload_n 0, 1) := by decide +kernel
theorem dX5_print_19 : decode cX5_print 19 = .ok (.invokevirtual 74, 3) := by decide +kernel
theorem dX5_print_22 : decode cX5_print 22 = .ok (.aload_n 0, 1) := by decide +kernel
theorem dX5_print_23 : decode cX5_print 23 = .ok (.getfield 48, 3) := by decide +kernel
theorem dX5_print_26 : decode cX5_print 26 = .ok (.ifCond .eq 19, 3) := by decide +kernel
theorem dX5_print_29 : decode cX5_print 29 = .ok (.aload_n 0, 1) := by decide +kernel
theorem dX5_print_30 : decode cX5_print 30 = .ok (.invokevirtual 77, 3) := by decide +kernel
theorem dX5_print_33 : decode cX5_print 33 = .ok (.aload_n 0, 1) := by decide +kernel
theorem dX5_print_34 : decode cX5_print 34 = .ok (.invokevirtual 81, 3) := by decide +kernel
theorem dX5_print_37 : decode cX5_print 37 = .ok (.aload_n 0, 1) := by decide +kernel
theorem dX5_print_38 : decode cX5_print 38 = .ok (.invokevirtual 85, 3) := by decide +kernel
theorem dX5_print_41 : decode cX5_print 41 = .ok (.iconst 1, 1) := by decide +kernel
theorem dX5_print_42 : decode cX5_print 42 = .ok (.invokevirtual 88, 3) := by decide +kernel
theorem dX5_print_45 : decode cX5_print 45 = .ok (.aload_n 0, 1) := by decide +kernel
theorem dX5_print_46 : decode cX5_print 46 = .ok (.invokevirtual 77, 3) := by decide +kernel
theorem dX5_print_49 : decode cX5_print 49 = .ok (.aload_n 0, 1) := by decide +kernel
theorem dX5_print_50 : decode cX5_print 50 = .ok (.invokevirtual 81, 3) := by decide +kernel
theorem dX5_print_53 : decode cX5_print 53 = .ok (.iload_n 1, 1) := by decide +kernel
theorem dX5_print_54 : decode cX5_print 54 = .ok (.aload_n 0, 1) := by decide +kernel
theorem dX5_print_55 : decode cX5_print 55 = .ok (.getfield 24, 3) := by decide +kernel
theorem dX5_print_58 : decode cX5_print 58 = .ok (.getfield 92, 3) := by decide +kernel
theorem dX5_print_61 : decode cX5_print 61 = .ok (.invokevirtual 95, 3) := by decide +kernel
theorem dX5_print_64 : decode cX5_print 64 = .ok (.aload_n 0, 1) := by decide +kernel
theorem dX5_print_65 : decode cX5_print 65 = .ok (.getfield 24, 3) := by decide +kernel
theorem dX5_print_68 : decode cX5_print 68 = .ok (.getfield 71, 3) := by decide +kernel
theorem dX5_print_71 : decode cX5_print 71 = .ok (.bipush 11, 2) := by decide +kernel
theorem dX5_print_73 : decode cX5_print 73 = .ok (.if_icmp .ge 19, 3) := by decide +kernel
theorem dX5_print_76 : decode cX5_print 76 = .ok (.aload_n 0, 1) := by decide +kernel
theorem dX5_print_77 : decode cX5_print 77 = .ok (.getfield 24, 3) := by decide +kernel
theorem dX5_print_80 : decode cX5_print 80 = .ok (.dup, 1) := by decide +kernel
theorem dX5_print_81 : decode cX5_print 81 = .ok (.getfield 71, 3) := by decide +kernel
theorem dX5_print_84 : decode cX5_print 84 = .ok (.iconst 1, 1) := by decide +kernel
theorem dX5_print_85 : decode cX5_print 85 = .ok (.iadd, 1) := by decide +kernel
theorem dX5_print_86 : decode cX5_print 86 = .ok (.putfield 71, 3) := by decide +kernel
theorem dX5_print_89 : decode cX5_print 89 = .ok (.goto 14, 3) := by decide +kernel
theorem dX5_print_92 : decode cX5_print 92 = .ok (.aload_n 0, 1) := by decide +kernel
theorem dX5_print_93 : decode cX5_print 93 = .ok (.getfield 24, 3) := by decide +kernel
theorem dX5_print_96 : decode cX5_print 96 = .ok (.aload_n 0, 1) := by decide +kernel
theorem dX5_print_97 : decode cX5_print 97 = .ok (.getfield 52, 3) := by decide +kernel
theorem dX5_print_100 : decode cX5_print 100 = .ok (.putfield 68, 3) := by decide +kernel
theorem dX5_print_103 : decode cX5_print 103 = .ok (.aload_n 0, 1) := by decide +kernel
theorem dX5_print_104 : decode cX5_print 104 = .ok (.iload_n 1, 1) := by decide +kernel
theorem dX5_print_105 : decode cX5_print 105 = .ok (.putfield 61, 3) := by decide +kernel
theorem dX5_print_108 : decode cX5_print 108 = .ok (.return_, 1) := by decide +kernel
theorem dX5_repeat_0 : decode cX5_repeat 0 = .ok (.aload_n 0, 1) := by decide +kernel
theorem dX5_repeat_1 : decode cX5_repeat 1 = .ok (.getfield 61, 3) := by decide +kernel
theorem dX5_repeat_4 : decode cX5_repeat 4 = .ok (.iconst (-1), 1) := by decide +kernel
theorem dX5_repeat_5 : decode cX5_repeat 5 = .ok (.if_icmp .ne 4, 3) := by decide +kernel
theorem dX5_repeat_8 : decode cX5_repeat 8 = .ok (.return_, 1) := by decide +kernel
theorem dX5_repeat_9 : decode cX5_repeat 9 = .ok (.iload_n 1, 1) := by decide +kernel
theorem dX5_repeat_10 : decode cX5_repeat 10 = .ok (.bipush 24, 2) := by decide +kernel
theorem dX5_repeat_12 : decode cX5_repeat 12 = .ok (.invokestatic 98, 3) := by decide +kernel
theorem dX5_repeat_15 : decode cX5_repeat 15 = .ok (.istore_n 2, 1) := by decide +kernel
theorem dX5_repeat_16 : decode cX5_repeat 16 = .ok (.iconst 0, 1) := by decide +kernel
theorem dX5_repeat_17 : decode cX5_repeat 17 = .ok (.istore_n 3, 1) := by decide +kernel
theorem dX5_repeat_18 : decode cX5_repeat 18 = .ok (.iload_n 3, 1) := by decide +kernel
theorem dX5_repeat_19 : decode cX5_repeat 19 = .ok (.iload_n 2, 1) := by decide +kernel
theorem dX5_repeat_20 : decode cX5_repeat 20 = .ok (.if_icmp .ge 17, 3) := by decide +kernel
theorem dX5_repeat_23 : decode cX5_repeat 23 = .ok (.aload_n 0, 1) := by decide +kernel
theorem dX5_repeat_24 : decode cX5_repeat 24 = .ok (.aload_n 0, 1) := by decide +kernel
theorem dX5_repeat_25 : decode cX5_repeat 25 = .ok (.getfield 61, 3) := by decide +kernel
theorem dX5_repeat_28 : decode cX5_repeat 28 = .ok (.invokevirtual 104, 3) := by decide +kernel
theorem dX5_repeat_31 : decode cX5_repeat 31 = .ok (.iinc 3 1, 3) := by decide +kernel
theorem dX5_repeat_34 : decode cX5_repeat 34 = .ok (.goto (-16), 3) := by decide +kernel
theorem dX5_repeat_37 : decode cX5_repeat 37 = .ok (.return_, 1) := by decide +kernel
theorem dX5_feedRow_0 : decode cX5_feedRow 0 = .ok (.aload_n 0, 1) := by decide +kernel
theorem dX5_feedRow_1 : decode cX5_feedRow 1 = .ok (.getfield 24, 3) := by decide +kernel
theorem dX5_feedRow_4 : decode cX5_feedRow 4 = .ok (.getfield 108, 3) := by decide +kernel
theorem dX5_feedRow_7 : decode cX5_feedRow 7 = .ok (.aload_n 0, 1) := by decide +kernel
theorem dX5_feedRow_8 : decode cX5_feedRow 8 = .ok (.getfield 42, 3) := by decide +kernel
theorem dX5_feedRow_11 : decode cX5_feedRow 11 = .ok (.if_icmp .ne 23, 3) := by decide +kernel
theorem dX5_feedRow_14 : decode cX5_feedRow 14 = .ok (.aload_n 0, 1) := by decide +kernel
theorem dX5_feedRow_15 : decode cX5_feedRow 15 = .ok (.invokevirtual 77, 3) := by decide +kernel
theorem dX5_feedRow_18 : decode cX5_feedRow 18 = .ok (.aload_n 0, 1) := by decide +kernel
theorem dX5_feedRow_19 : decode cX5_feedRow 19 = .ok (.invokevirtual 111, 3) := by decide +kernel
theorem dX5_feedRow_22 : decode cX5_feedRow 22 = .ok (.aload_n 0, 1) := by decide +kernel
theorem dX5_feedRow_23 : decode cX5_feedRow 23 = .ok (.invokevirtual 114, 3) := by decide +kernel
theorem dX5_feedRow_26 : decode cX5_feedRow 26 = .ok (.bipush 12, 2) := by decide +kernel
theorem dX5_feedRow_28 : decode cX5_feedRow 28 = .ok (.invokevirtual 117, 3) := by decide +kernel
theorem dX5_feedRow_31 : decode cX5_feedRow 31 = .ok (.goto 28, 3) := by decide +kernel
theorem dX5_feedRow_34 : decode cX5_feedRow 34 = .ok (.aload_n 0, 1) := by decide +kernel
theorem dX5_feedRow_35 : decode cX5_feedRow 35 = .ok (.getfield 24, 3) := by decide +kernel
theorem dX5_feedRow_38 : decode cX5_feedRow 38 = .ok (.getfield 108, 3) := by decide +kernel
theorem dX5_feedRow_41 : decode cX5_feedRow 41 = .ok (.bipush 7, 2) := by decide +kernel
theorem dX5_feedRow_43 : decode cX5_feedRow 43 = .ok (.if_icmp .ge 16, 3) := by decide +kernel
theorem dX5_feedRow_46 : decode cX5_feedRow 46 = .ok (.aload_n 0, 1) := by decide +kernel
theorem dX5_feedRow_47 : decode cX5_feedRow 47 = .ok (.getfield 24, 3) := by decide +kernel
theorem dX5_feedRow_50 : decode cX5_feedRow 50 = .ok (.dup, 1) := by decide +kernel
theorem dX5_feedRow_51 : decode cX5_feedRow 51 = .ok (.getfield 108, 3) := by decide +kernel
theorem dX5_feedRow_54 : decode cX5_feedRow 54 = .ok (.iconst 1, 1) := by decide +kernel
theorem dX5_feedRow_55 : decode cX5_feedRow 55 = .ok (.iadd, 1) := by decide +kernel
theorem dX5_feedRow_56 : decode cX5_feedRow 56 = .ok (.putfield 108, 3) := by decide +kernel
theorem dX5_feedRow_59 : decode cX5_feedRow 59 = .ok (.aload_n 0, 1) := by decide +kernel
theorem dX5_feedRow_60 : decode cX5_feedRow 60 = .ok (.getfield 24, 3) := by decide +kernel
theorem dX5_feedRow_63 : decode cX5_feedRow 63 = .ok (.iconst 0, 1) := by decide +kernel
theorem dX5_feedRow_64 : decode cX5_feedRow 64 = .ok (.putfield 68, 3) := by decide +kernel
theorem dX5_feedRow_67 : decode cX5_feedRow 67 = .ok (.return_, 1) := by decide +kernel
theorem dX5_backRow_0 : decode cX5_backRow 0 = .ok (.aload_n 0, 1) := by decide +kernel
theorem dX5_backRow_1 : decode cX5_backRow 1 = .ok (.getfield 24, 3) := by decide +kernel
theorem dX5_backRow_4 : decode cX5_backRow 4 = .ok (.getfield 108, 3) := by decide +kernel
theorem dX5_backRow_7 : decode cX5_backRow 7 = .ok (.aload_n 0, 1) := by decide +kernel
theorem dX5_backRow_8 : decode cX5_backRow 8 = .ok (.getfield 38, 3) := by decide +kernel
theorem dX5_backRow_11 : decode cX5_backRow 11 = .ok (.if_icmp .ne 23, 3) := by decide +kernel
theorem dX5_backRow_14 : decode cX5_backRow 14 = .ok (.aload_n 0, 1) := by decide +kernel
theorem dX5_backRow_15 : decode cX5_backRow 15 = .ok (.invokevirtual 77, 3) := by decide +kernel
theorem dX5_backRow_18 : decode cX5_backRow 18 = .ok (.aload_n 0, 1) := by decide +kernel
theorem dX5_backRow_19 : decode cX5_backRow 19 = .ok (.invokevirtual 111, 3) := by decide +kernel
theorem dX5_backRow_22 : decode cX5_backRow 22 = .ok (.aload_n 0, 1) := by decide +kernel
theorem dX5_backRow_23 : decode cX5_backRow 23 = .ok (.invokevirtual 114, 3) := by decide +kernel
theorem dX5_backRow_26 : decode cX5_backRow 26 = .ok (.bipush 12, 2) := by decide +kernel
theorem dX5_backRow_28 : decode cX5_backRow 28 = .ok (.invokevirtual 88, 3) := by decide +kernel
theorem dX5_backRow_31 : decode cX5_backRow 31 = .ok (.goto 26, 3) := by decide +kernel
theorem dX5_backRow_34 : decode cX5_backRow 34 = .ok (.aload_n 0, 1) := by decide +kernel
theorem dX5_backRow_35 : decode cX5_backRow 35 = .ok (.getfield 24, 3) := by decide +kernel
theorem dX5_backRow_38 : decode cX5_backRow 38 = .ok (.getfield 108, 3) := by decide +kernel
theorem dX5_backRow_41 : decode cX5_backRow 41 = .ok (.ifCond .le 16, 3) := by decide +kernel
theorem dX5_backRow_44 : decode cX5_backRow 44 = .ok (.aload_n 0, 1) := by decide +kernel
theorem dX5_backRow_45 : decode cX5_backRow 45 = .ok (.getfield 24, 3) := by decide +kernel
theorem dX5_backRow_48 : decode cX5_backRow 48 = .ok (.dup, 1) := by decide +kernel
theorem dX5_backRow_49 : decode cX5_backRow 49 = .ok (.getfield 108, 3) := by decide +kernel
theorem dX5_backRow_52 : decode cX5_backRow 52 = .ok (.iconst 1, 1) := by decide +kernel
theorem dX5_backRow_53 : decode cX5_backRow 53 = .ok (.isub, 1) := by decide +kernel
theorem dX5_backRow_54 : decode cX5_backRow 54 = .ok (.putfield 108, 3) := by decide +kernel
theorem dX5_backRow_57 : decode cX5_backRow 57 = .ok (.aload_n 0, 1) := by decide +kernel
theorem dX5_backRow_58 : decode cX5_backRow 58 = .ok (.getfield 24, 3) := by decide +kernel
theorem dX5_backRow_61 : decode cX5_backRow 61 = .ok (.iconst 0, 1) := by decide +kernel
theorem dX5_backRow_62 : decode cX5_backRow 62 = .ok (.putfield 68, 3) := by decide +kernel
theorem dX5_backRow_65 : decode cX5_backRow 65 = .ok (.return_, 1) := by decide +kernel
theorem dX5_scrollUp_0 : decode cX5_scrollUp 0 = .ok (.aload_n 0, 1) := by decide +kernel
theorem dX5_scrollUp_1 : decode cX5_scrollUp 1 = .ok (.invokevirtual 77, 3) := by decide +kernel
theorem dX5_scrollUp_4 : decode cX5_scrollUp 4 = .ok (.aload_n 0, 1) := by decide +kernel
theorem dX5_scrollUp_5 : decode cX5_scrollUp 5 = .ok (.invokevirtual 111, 3) := by decide +kernel
theorem dX5_scrollUp_8 : decode cX5_scrollUp 8 = .ok (.aload_n 0, 1) := by decide +kernel
theorem dX5_scrollUp_9 : decode cX5_scrollUp 9 = .ok (.invokevirtual 114, 3) := by decide +kernel
theorem dX5_scrollUp_12 : decode cX5_scrollUp 12 = .ok (.iload_n 1, 1) := by decide +kernel
theorem dX5_scrollUp_13 : decode cX5_scrollUp 13 = .ok (.bipush 12, 2) := by decide +kernel
theorem dX5_scrollUp_15 : decode cX5_scrollUp 15 = .ok (.imul, 1) := by decide +kernel
theorem dX5_scrollUp_16 : decode cX5_scrollUp 16 = .ok (.invokevirtual 117, 3) := by decide +kernel
theorem dX5_scrollUp_19 : decode cX5_scrollUp 19 = .ok (.return_, 1) := by decide +kernel
theorem dX5_scrollDown_0 : decode cX5_scrollDown 0 = .ok (.aload_n 0, 1) := by decide +kernel
theorem dX5_scrollDown_1 : decode cX5_scrollDown 1 = .ok (.invokevirtual 77, 3) := by decide +kernel
theorem dX5_scrollDown_4 : decode cX5_scrollDown 4 = .ok (.aload_n 0, 1) := by decide +kernel
theorem dX5_scrollDown_5 : decode cX5_scrollDown 5 = .ok (.invokevirtual 111, 3) := by decide +kernel
theorem dX5_scrollDown_8 : decode cX5_scrollDown 8 = .ok (.aload_n 0, 1) := by decide +kernel
theorem dX5_scrollDown_9 : decode cX5_scrollDown 9 = .ok (.invokevirtual 114, 3) := by decide +kernel
theorem dX5_scrollDown_12 : decode cX5_scrollDown 12 = .ok (.iload_n 1, 1) := by decide +kernel
theorem dX5_scrollDown_13 : decode cX5_scrollDown 13 = .ok (.bipush 12, 2) := by decide +kernel
theorem dX5_scrollDown_15 : decode cX5_scrollDown 15 = .ok (.imul, 1) := by decide +kernel
theorem dX5_scrollDown_16 : decode cX5_scrollDown 16 = .ok (.invokevirtual 88, 3) := by decide +kernel
theorem dX5_scrollDown_19 : decode cX5_scrollDown 19 = .ok (.return_, 1) := by decide +kernel
theorem dX5_putInRows_0 : decode cX5_putInRows 0 = .ok (.aload_n 0, 1) := by decide +kernel
theorem dX5_putInRows_1 : decode cX5_putInRows 1 = .ok (.invokevirtual 120, 3) := by decide +kernel
theorem dX5_putInRows_4 : decode cX5_putInRows 4 = .ok (.ifCond .eq 22, 3) := by decide +kernel
theorem dX5_putInRows_7 : decode cX5_putInRows 7 = .ok (.aload_n 0, 1) := by decide +kernel
theorem dX5_putInRows_8 : decode cX5_putInRows 8 = .ok (.invokevirtual 77, 3) := by decide +kernel
theorem dX5_putInRows_11 : decode cX5_putInRows 11 = .ok (.aload_n 0, 1) := by decide +kernel
theorem dX5_putInRows_12 : decode cX5_putInRows 12 = .ok (.invokevirtual 124, 3) := by decide +kernel
theorem dX5_putInRows_15 : decode cX5_putInRows 15 = .ok (.aload_n 0, 1) := by decide +kernel
theorem dX5_putInRows_16 : decode cX5_putInRows 16 = .ok (.invokevirtual 114, 3) := by decide +kernel
theorem dX5_putInRows_19 : decode cX5_putInRows 19 = .ok (.iload_n 1, 1) := by decide +kernel
theorem dX5_putInRows_20 : decode cX5_putInRows 20 = .ok (.bipush 12, 2) := by decide +kernel
theorem dX5_putInRows_22 : decode cX5_putInRows 22 = .ok (.imul, 1) := by decide +kernel
theorem dX5_putInRows_23 : decode cX5_putInRows 23 = .ok (.invokevirtual 88, 3) := by decide +kernel
theorem dX5_putInRows_26 : decode cX5_putInRows 26 = .ok (.return_, 1) := by decide +kernel
theorem dX5_takeOutRows_0 : decode cX5_takeOutRows 0 = .ok (.aload_n 0, 1) := by decide +kernel
theorem dX5_takeOutRows_1 : decode cX5_takeOutRows 1 = .ok (.invokevirtual 120, 3) := by decide +kernel
theorem dX5_takeOutRows_4 : decode cX5_takeOutRows 4 = .ok (.ifCond .eq 22, 3) := by decide +kernel
theorem dX5_takeOutRows_7 : decode cX5_takeOutRows 7 = .ok (.aload_n 0, 1) := by decide +kernel
theorem dX5_takeOutRows_8 : decode cX5_takeOutRows 8 = .ok (.invokevirtual 77, 3) := by decide +kernel
theorem dX5_takeOutRows_11 : decode cX5_takeOutRows 11 = .ok (.aload_n 0, 1) := by decide +kernel
theorem dX5_takeOutRows_12 : decode cX5_takeOutRows 12 = .ok (.invokevirtual 124, 3) := by decide +kernel
theorem dX5_takeOutRows_15 : decode cX5_takeOutRows 15 = .ok (.aload_n 0, 1) := by decide +kernel
theorem dX5_takeOutRows_16 : decode cX5_takeOutRows 16 = .ok (.invokevirtual 114, 3) := by decide +kernel
theorem dX5_takeOutRows_19 : decode cX5_takeOutRows 19 = .ok (.iload_n 1, 1) := by decide +kernel
theorem dX5_takeOutRows_20 : decode cX5_takeOutRows 20 = .ok (.bipush 12, 2) := by decide +kernel
theorem dX5_takeOutRows_22 : decode cX5_takeOutRows 22 = .ok (.imul, 1) := by decide +kernel
theorem dX5_takeOutRows_23 : decode cX5_takeOutRows 23 = .ok (.invokevirtual 117, 3) := by decide +kernel
theorem dX5_takeOutRows_26 : decode cX5_takeOutRows 26 = .ok (.return_, 1) := by decide +kernel
theorem dX5_putInCells_0 : decode cX5_putInCells 0 = .ok (.aload_n 0, 1) := by decide +kernel
theorem dX5_putInCells_1 : decode cX5_putInCells 1 = .ok (.invokevirtual 77, 3) := by decide +kernel
theorem dX5_putInCells_4 : decode cX5_putInCells 4 = .ok (.aload_n 0, 1) := by decide +kernel
theorem dX5_putInCells_5 : decode cX5_putInCells 5 = .ok (.invokevirtual 81, 3) := by decide +kernel
theorem dX5_putInCells_8 : decode cX5_putInCells 8 = .ok (.aload_n 0, 1) := by decide +kernel
theorem dX5_putInCells_9 : decode cX5_putInCells 9 = .ok (.invokevirtual 85, 3) := by decide +kernel
theorem dX5_putInCells_12 : decode cX5_putInCells 12 = .ok (.iload_n 1, 1) := by decide +kernel
theorem dX5_putInCells_13 : decode cX5_putInCells 13 = .ok (.invokevirtual 88, 3) := by decide +kernel
theorem dX5_putInCells_16 : decode cX5_putInCells 16 = .ok (.return_, 1) := by decide +kernel
theorem dX5_takeOutCells_0 : decode cX5_takeOutCells 0 = .ok (.aload_n 0, 1) := by decide +kernel
theorem dX5_takeOutCells_1 : decode cX5_takeOutCells 1 = .ok (.invokevirtual 77, 3) := by decide +kernel
theorem dX5_takeOutCells_4 : decode cX5_takeOutCells 4 = .ok (.aload_n 0, 1) := by decide +kernel
theorem dX5_takeOutCells_5 : decode cX5_takeOutCells 5 = .ok (.invokevirtual 81, 3) := by decide +kernel
theorem dX5_takeOutCells_8 : decode cX5_takeOutCells 8 = .ok (.aload_n 0, 1) := by decide +kernel
theorem dX5_takeOutCells_9 : decode cX5_takeOutCells 9 = .ok (.invokevirtual 85, 3) := by decide +kernel
theorem dX5_takeOutCells_12 : decode cX5_takeOutCells 12 = .ok (.iload_n 1, 1) := by decide +kernel
theorem dX5_takeOutCells_13 : decode cX5_takeOutCells 13 = .ok (.invokevirtual 117, 3) := by decide +kernel
theorem dX5_takeOutCells_16 : decode cX5_takeOutCells 16 = .ok (.return_, 1) := by decide +kernel
theorem dX5_clearCells_0 : decode cX5_clearCells 0 = .ok (.aload_n 0, 1) := by decide +kernel
theorem dX5_clearCells_1 : decode cX5_clearCells 1 = .ok (.invokevirtual 77, 3) := by decide +kernel
theorem dX5_clearCells_4 : decode cX5_clearCells 4 = .ok (.aload_n 0, 1) := by decide +kernel
theorem dX5_clearCells_5 : decode cX5_clearCells 5 = .ok (.invokevirtual 81, 3) := by decide +kernel
theorem dX5_clearCells_8 : decode cX5_clearCells 8 = .ok (.aload_n 0, 1) := by decide +kernel
theorem dX5_clearCells_9 : decode cX5_clearCells 9 = .ok (.invokevirtual 81, 3) := by decide +kernel
theorem dX5_clearCells_12 : decode cX5_clearCells 12 = .ok (.iload_n 1, 1) := by decide +kernel
theorem dX5_clearCells_13 : decode cX5_clearCells 13 = .ok (.iadd, 1) := by decide +kernel
theorem dX5_clearCells_14 : decode cX5_clearCells 14 = .ok (.iconst 1, 1) := by decide +kernel
theorem dX5_clearCells_15 : decode cX5_clearCells 15 = .ok (.isub, 1) := by decide +kernel
theorem dX5_clearCells_16 : decode cX5_clearCells 16 = .ok (.aload_n 0, 1) := by decide +kernel
theorem dX5_clearCells_17 : decode cX5_clearCells 17 = .ok (.invokevirtual 85, 3) := by decide +kernel
theorem dX5_clearCells_20 : decode cX5_clearCells 20 = .ok (.invokestatic 98, 3) := by decide +kernel
theorem dX5_clearCells_23 : decode cX5_clearCells 23 = .ok (.invokevirtual 31, 3) := by decide +kernel
theorem dX5_clearCells_26 : decode cX5_clearCells 26 = .ok (.return_, 1) := by decide +kernel
theorem dX5_clearInPage_0 : decode cX5_clearInPage 0 = .ok (.aload_n 0, 1) := by decide +kernel
theorem dX5_clearInPage_1 : decode cX5_clearInPage 1 = .ok (.iconst 0, 1) := by decide +kernel
theorem dX5_clearInPage_2 : decode cX5_clearInPage 2 = .ok (.bipush 95, 2) := by decide +kernel
theorem dX5_clearInPage_4 : decode cX5_clearInPage 4 = .ok (.iload_n 1, 1) := by decide +kernel
theorem dX5_clearInPage_5 : decode cX5_clearInPage 5 = .ok (.invokevirtual 127, 3) := by decide +kernel
theorem dX5_clearInPage_8 : decode cX5_clearInPage 8 = .ok (.return_, 1) := by decide +kernel
theorem dX5_clearInRow_0 : decode cX5_clearInRow 0 = .ok (.aload_n 0, 1) := by decide +kernel
theorem dX5_clearInRow_1 : decode cX5_clearInRow 1 = .ok (.aload_n 0, 1) := by decide +kernel
theorem dX5_clearInRow_2 : decode cX5_clearInRow 2 = .ok (.invokevirtual 124, 3) := by decide +kernel
theorem dX5_clearInRow_5 : decode cX5_clearInRow 5 = .ok (.aload_n 0, 1) := by decide +kernel
theorem dX5_clearInRow_6 : decode cX5_clearInRow 6 = .ok (.invokevirtual 85, 3) := by decide +kernel
theorem dX5_clearInRow_9 : decode cX5_clearInRow 9 = .ok (.iload_n 1, 1) := by decide +kernel
theorem dX5_clearInRow_10 : decode cX5_clearInRow 10 = .ok (.invokevirtual 127, 3) := by decide +kernel
theorem dX5_clearInRow_13 : decode cX5_clearInRow 13 = .ok (.return_, 1) := by decide +kernel
theorem dX5_clearWithin_0 : decode cX5_clearWithin 0 = .ok (.iload_n 3, 1) := by decide +kernel
theorem dX5_clearWithin_1 : decode cX5_clearWithin 1 = .ok (.tableswitch 69 0 2 #[27, 42, 57], 27) := by decide +kernel
theorem dX5_clearWithin_28 : decode cX5_clearWithin 28 = .ok (.aload_n 0, 1) := by decide +kernel
theorem dX5_clearWithin_29 : decode cX5_clearWithin 29 = .ok (.invokevirtual 77, 3) := by decide +kernel
theorem dX5_clearWithin_32 : decode cX5_clearWithin 32 = .ok (.aload_n 0, 1) := by decide +kernel
theorem dX5_clearWithin_33 : decode cX5_clearWithin 33 = .ok (.invokevirtual 81, 3) := by decide +kernel
theorem dX5_clearWithin_36 : decode cX5_clearWithin 36 = .ok (.iload_n 2, 1) := by decide +kernel
theorem dX5_clearWithin_37 : decode cX5_clearWithin 37 = .ok (.invokevirtual 31, 3) := by decide +kernel
theorem dX5_clearWithin_40 : decode cX5_clearWithin 40 = .ok (.goto 30, 3) := by decide +kernel
theorem dX5_clearWithin_43 : decode cX5_clearWithin 43 = .ok (.aload_n 0, 1) := by decide +kernel
theorem dX5_clearWithin_44 : decode cX5_clearWithin 44 = .ok (.invokevirtual 77, 3) := by decide +kernel
theorem dX5_clearWithin_47 : decode cX5_clearWithin 47 = .ok (.iload_n 1, 1) := by decide +kernel
theorem dX5_clearWithin_48 : decode cX5_clearWithin 48 = .ok (.aload_n 0, 1) := by decide +kernel
theorem dX5_clearWithin_49 : decode cX5_clearWithin 49 = .ok (.invokevirtual 81, 3) := by decide +kernel
theorem dX5_clearWithin_52 : decode cX5_clearWithin 52 = .ok (.invokevirtual 31, 3) := by decide +kernel
theorem dX5_clearWithin_55 : decode cX5_clearWithin 55 = .ok (.goto 15, 3) := by decide +kernel
theorem dX5_clearWithin_58 : decode cX5_clearWithin 58 = .ok (.aload_n 0, 1) := by decide +kernel
theorem dX5_clearWithin_59 : decode cX5_clearWithin 59 = .ok (.invokevirtual 77, 3) := by decide +kernel
theorem dX5_clearWithin_62 : decode cX5_clearWithin 62 = .ok (.iload_n 1, 1) := by decide +kernel
theorem dX5_clearWithin_63 : decode cX5_clearWithin 63 = .ok (.iload_n 2, 1) := by decide +kernel
theorem dX5_clearWithin_64 : decode cX5_clearWithin 64 = .ok (.invokevirtual 31, 3) := by decide +kernel
theorem dX5_clearWithin_67 : decode cX5_clearWithin 67 = .ok (.goto 3, 3) := by decide +kernel
theorem dX5_clearWithin_70 : decode cX5_clearWithin 70 = .ok (.return_, 1) := by decide +kernel
theorem dX5_moveUp_0 : decode cX5_moveUp 0 = .ok (.aload_n 0, 1) := by decide +kernel
theorem dX5_moveUp_1 : decode cX5_moveUp 1 = .ok (.getfield 24, 3) := by decide +kernel
theorem dX5_moveUp_4 : decode cX5_moveUp 4 = .ok (.getfield 108, 3) := by decide +kernel
theorem dX5_moveUp_7 : decode cX5_moveUp 7 = .ok (.aload_n 0, 1) := by decide +kernel
theorem dX5_moveUp_8 : decode cX5_moveUp 8 = .ok (.getfield 38, 3) := by decide +kernel
theorem dX5_moveUp_11 : decode cX5_moveUp 11 = .ok (.if_icmp .lt 10, 3) := by decide +kernel
theorem dX5_moveUp_14 : decode cX5_moveUp 14 = .ok (.aload_n 0, 1) := by decide +kernel
theorem dX5_moveUp_15 : decode cX5_moveUp 15 = .ok (.getfield 38, 3) := by decide +kernel
theorem dX5_moveUp_18 : decode cX5_moveUp 18 = .ok (.goto 4, 3) := by decide +kernel
theorem dX5_moveUp_21 : decode cX5_moveUp 21 = .ok (.iconst 0, 1) := by decide +kernel
theorem dX5_moveUp_22 : decode cX5_moveUp 22 = .ok (.istore_n 2, 1) := by decide +kernel
theorem dX5_moveUp_23 : decode cX5_moveUp 23 = .ok (.aload_n 0, 1) := by decide +kernel
theorem dX5_moveUp_24 : decode cX5_moveUp 24 = .ok (.getfield 24, 3) := by decide +kernel
theorem dX5_moveUp_27 : decode cX5_moveUp 27 = .ok (.iload_n 2, 1) := by decide +kernel
theorem dX5_moveUp_28 : decode cX5_moveUp 28 = .ok (.aload_n 0, 1) := by decide +kernel
theorem dX5_moveUp_29 : decode cX5_moveUp 29 = .ok (.getfield 24, 3) := by decide +kernel
theorem dX5_moveUp_32 : decode cX5_moveUp 32 = .ok (.getfield 108, 3) := by decide +kernel
theorem dX5_moveUp_35 : decode cX5_moveUp 35 = .ok (.iload_n 1, 1) := by decide +kernel
theorem dX5_moveUp_36 : decode cX5_moveUp 36 = .ok (.isub, 1) := by decide +kernel
theorem dX5_moveUp_37 : decode cX5_moveUp 37 = .ok (.invokestatic 130, 3) := by decide +kernel
theorem dX5_moveUp_40 : decode cX5_moveUp 40 = .ok (.aload_n 0, 1) := by decide +kernel
theorem dX5_moveUp_41 : decode cX5_moveUp 41 = .ok (.getfield 24, 3) := by decide +kernel
theorem dX5_moveUp_44 : decode cX5_moveUp 44 = .ok (.getfield 71, 3) := by decide +kernel
theorem dX5_moveUp_47 : decode cX5_moveUp 47 = .ok (.invokevirtual 133, 3) := by decide +kernel
theorem dX5_moveUp_50 : decode cX5_moveUp 50 = .ok (.return_, 1) := by decide +kernel
theorem dX5_moveDown_0 : decode cX5_moveDown 0 = .ok (.aload_n 0, 1) := by decide +kernel
theorem dX5_moveDown_1 : decode cX5_moveDown 1 = .ok (.getfield 24, 3) := by decide +kernel
theorem dX5_moveDown_4 : decode cX5_moveDown 4 = .ok (.getfield 108, 3) := by decide +kernel
theorem dX5_moveDown_7 : decode cX5_moveDown 7 = .ok (.aload_n 0, 1) := by decide +kernel
theorem dX5_moveDown_8 : decode cX5_moveDown 8 = .ok (.getfield 42, 3) := by decide +kernel
theorem dX5_moveDown_11 : decode cX5_moveDown 11 = .ok (.if_icmp .gt 10, 3) := by decide +kernel
theorem dX5_moveDown_14 : decode cX5_moveDown 14 = .ok (.aload_n 0, 1) := by decide +kernel
theorem dX5_moveDown_15 : decode cX5_moveDown 15 = .ok (.getfield 42, 3) := by decide +kernel
theorem dX5_moveDown_18 : decode cX5_moveDown 18 = .ok (.goto 5, 3) := by decide +kernel
theorem dX5_moveDown_21 : decode cX5_moveDown 21 = .ok (.bipush 7, 2) := by decide +kernel
theorem dX5_moveDown_23 : decode cX5_moveDown 23 = .ok (.istore_n 2, 1) := by decide +kernel
theorem dX5_moveDown_24 : decode cX5_moveDown 24 = .ok (.aload_n 0, 1) := by decide +kernel
theorem dX5_moveDown_25 : decode cX5_moveDown 25 = .ok (.getfield 24, 3) := by decide +kernel
theorem dX5_moveDown_28 : decode cX5_moveDown 28 = .ok (.iload_n 2, 1) := by decide +kernel
theorem dX5_moveDown_29 : decode cX5_moveDown 29 = .ok (.aload_n 0, 1) := by decide +kernel
theorem dX5_moveDown_30 : decode cX5_moveDown 30 = .ok (.getfield 24, 3) := by decide +kernel
theorem dX5_moveDown_33 : decode cX5_moveDown 33 = .ok (.getfield 108, 3) := by decide +kernel
theorem dX5_moveDown_36 : decode cX5_moveDown 36 = .ok (.iload_n 1, 1) := by decide +kernel
theorem dX5_moveDown_37 : decode cX5_moveDown 37 = .ok (.iadd, 1) := by decide +kernel
theorem dX5_moveDown_38 : decode cX5_moveDown 38 = .ok (.invokestatic 98, 3) := by decide +kernel
theorem dX5_moveDown_41 : decode cX5_moveDown 41 = .ok (.aload_n 0, 1) := by decide +kernel
theorem dX5_moveDown_42 : decode cX5_moveDown 42 = .ok (.getfield 24, 3) := by decide +kernel
theorem dX5_moveDown_45 : decode cX5_moveDown 45 = .ok (.getfield 71, 3) := by decide +kernel
theorem dX5_moveDown_48 : decode cX5_moveDown 48 = .ok (.invokevirtual 133, 3) := by decide +kernel
theorem dX5_moveDown_51 : decode cX5_moveDown 51 = .ok (.return_, 1) := by decide +kernel
theorem dX5_moveLeft_0 : decode cX5_moveLeft 0 = .ok (.aload_n 0, 1) := by decide +kernel
theorem dX5_moveLeft_1 : decode cX5_moveLeft 1 = .ok (.iconst 0, 1) := by decide +kernel
theorem dX5_moveLeft_2 : decode cX5_moveLeft 2 = .ok (.aload_n 0, 1) := by decide +kernel
theorem dX5_moveLeft_3 : decode cX5_moveLeft 3 = .ok (.getfield 24, 3) := by decide +kernel
theorem dX5_moveLeft_6 : decode cX5_moveLeft 6 = .ok (.getfield 71, 3) := by decide +kernel
theorem dX5_moveLeft_9 : decode cX5_moveLeft 9 = .ok (.iload_n 1, 1) := by decide +kernel
theorem dX5_moveLeft_10 : decode cX5_moveLeft 10 = .ok (.isub, 1) := by decide +kernel
theorem dX5_moveLeft_11 : decode cX5_moveLeft 11 = .ok (.invokestatic 130, 3) := by decide +kernel
theorem dX5_moveLeft_14 : decode cX5_moveLeft 14 = .ok (.invokevirtual 136, 3) := by decide +kernel
theorem dX5_moveLeft_17 : decode cX5_moveLeft 17 = .ok (.return_, 1) := by decide +kernel
theorem dX5_moveRight_0 : decode cX5_moveRight 0 = .ok (.aload_n 0, 1) := by decide +kernel
theorem dX5_moveRight_1 : decode cX5_moveRight 1 = .ok (.aload_n 0, 1) := by decide +kernel
theorem dX5_moveRight_2 : decode cX5_moveRight 2 = .ok (.getfield 24, 3) := by decide +kernel
theorem dX5_moveRight_5 : decode cX5_moveRight 5 = .ok (.getfield 71, 3) := by decide +kernel
theorem dX5_moveRight_8 : decode cX5_moveRight 8 = .ok (.iload_n 1, 1) := by decide +kernel
theorem dX5_moveRight_9 : decode cX5_moveRight 9 = .ok (.iadd, 1) := by decide +kernel
theorem dX5_moveRight_10 : decode cX5_moveRight 10 = .ok (.invokevirtual 136, 3) := by decide +kernel
theorem dX5_moveRight_13 : decode cX5_moveRight 13 = .ok (.return_, 1) := by decide +kernel
theorem dX5_moveToColumn_0 : decode cX5_moveToColumn 0 = .ok (.aload_n 0, 1) := by decide +kernel
theorem dX5_moveToColumn_1 : decode cX5_moveToColumn 1 = .ok (.getfield 24, 3) := by decide +kernel
theorem dX5_moveToColumn_4 : decode cX5_moveToColumn 4 = .ok (.aload_n 0, 1) := by decide +kernel
theorem dX5_moveToColumn_5 : decode cX5_moveToColumn 5 = .ok (.getfield 24, 3) := by decide +kernel
theorem dX5_moveToColumn_8 : decode cX5_moveToColumn 8 = .ok (.getfield 108, 3) := by decide +kernel
theorem dX5_moveToColumn_11 : decode cX5_moveToColumn 11 = .ok (.bipush 11, 2) := by decide +kernel
theorem dX5_moveToColumn_13 : decode cX5_moveToColumn 13 = .ok (.iload_n 1, 1) := by decide +kernel
theorem dX5_moveToColumn_14 : decode cX5_moveToColumn 14 = .ok (.invokestatic 98, 3) := by decide +kernel
theorem dX5_moveToColumn_17 : decode cX5_moveToColumn 17 = .ok (.invokevirtual 133, 3) := by decide +kernel
theorem dX5_moveToColumn_20 : decode cX5_moveToColumn 20 = .ok (.return_, 1) := by decide +kernel
theorem dX5_moveToRow_0 : decode cX5_moveToRow 0 = .ok (.aload_n 0, 1) := by decide +kernel
theorem dX5_moveToRow_1 : decode cX5_moveToRow 1 = .ok (.getfield 24, 3) := by decide +kernel
theorem dX5_moveToRow_4 : decode cX5_moveToRow 4 = .ok (.bipush 7, 2) := by decide +kernel
theorem dX5_moveToRow_6 : decode cX5_moveToRow 6 = .ok (.iload_n 1, 1) := by decide +kernel
theorem dX5_moveToRow_7 : decode cX5_moveToRow 7 = .ok (.invokestatic 98, 3) := by decide +kernel
theorem dX5_moveToRow_10 : decode cX5_moveToRow 10 = .ok (.aload_n 0, 1) := by decide +kernel
theorem dX5_moveToRow_11 : decode cX5_moveToRow 11 = .ok (.getfield 24, 3) := by decide +kernel
theorem dX5_moveToRow_14 : decode cX5_moveToRow 14 = .ok (.getfield 71, 3) := by decide +kernel
theorem dX5_moveToRow_17 : decode cX5_moveToRow 17 = .ok (.invokevirtual 133, 3) := by decide +kernel
theorem dX5_moveToRow_20 : decode cX5_moveToRow 20 = .ok (.return_, 1) := by decide +kernel
theorem dX5_moveTo_0 : decode cX5_moveTo 0 = .ok (.aload_n 0, 1) := by decide +kernel
theorem dX5_moveTo_1 : decode cX5_moveTo 1 = .ok (.getfield 24, 3) := by decide +kernel
theorem dX5_moveTo_4 : decode cX5_moveTo 4 = .ok (.getfield 139, 3) := by decide +kernel
theorem dX5_moveTo_7 : decode cX5_moveTo 7 = .ok (.ifCond .eq 12, 3) := by decide +kernel
theorem dX5_moveTo_10 : decode cX5_moveTo 10 = .ok (.aload_n 0, 1) := by decide +kernel
theorem dX5_moveTo_11 : decode cX5_moveTo 11 = .ok (.getfield 38, 3) := by decide +kernel
theorem dX5_moveTo_14 : decode cX5_moveTo 14 = .ok (.iload_n 1, 1) := by decide +kernel
theorem dX5_moveTo_15 : decode cX5_moveTo 15 = .ok (.iadd, 1) := by decide +kernel
theorem dX5_moveTo_16 : decode cX5_moveTo 16 = .ok (.goto 4, 3) := by decide +kernel
theorem dX5_moveTo_19 : decode cX5_moveTo 19 = .ok (.iload_n 1, 1) := by decide +kernel
theorem dX5_moveTo_20 : decode cX5_moveTo 20 = .ok (.istore_n 3, 1) := by decide +kernel
theorem dX5_moveTo_21 : decode cX5_moveTo 21 = .ok (.aload_n 0, 1) := by decide +kernel
theorem dX5_moveTo_22 : decode cX5_moveTo 22 = .ok (.getfield 24, 3) := by decide +kernel
theorem dX5_moveTo_25 : decode cX5_moveTo 25 = .ok (.getfield 139, 3) := by decide +kernel
theorem dX5_moveTo_28 : decode cX5_moveTo 28 = .ok (.ifCond .eq 10, 3) := by decide +kernel
theorem dX5_moveTo_31 : decode cX5_moveTo 31 = .ok (.aload_n 0, 1) := by decide +kernel
theorem dX5_moveTo_32 : decode cX5_moveTo 32 = .ok (.getfield 42, 3) := by decide +kernel
theorem dX5_moveTo_35 : decode cX5_moveTo 35 = .ok (.goto 5, 3) := by decide +kernel
theorem dX5_moveTo_38 : decode cX5_moveTo 38 = .ok (.bipush 7, 2) := by decide +kernel
theorem dX5_moveTo_40 : decode cX5_moveTo 40 = .ok (.istore 4, 2) := by decide +kernel
theorem dX5_moveTo_42 : decode cX5_moveTo 42 = .ok (.aload_n 0, 1) := by decide +kernel
theorem dX5_moveTo_43 : decode cX5_moveTo 43 = .ok (.getfield 24, 3) := by decide +kernel
theorem dX5_moveTo_46 : decode cX5_moveTo 46 = .ok (.iload 4, 2) := by decide +kernel
theorem dX5_moveTo_48 : decode cX5_moveTo 48 = .ok (.iload_n 3, 1) := by decide +kernel
theorem dX5_moveTo_49 : decode cX5_moveTo 49 = .ok (.invokestatic 98, 3) := by decide +kernel
theorem dX5_moveTo_52 : decode cX5_moveTo 52 = .ok (.bipush 11, 2) := by decide +kernel
theorem dX5_moveTo_54 : decode cX5_moveTo 54 = .ok (.iload_n 2, 1) := by decide +kernel
theorem dX5_moveTo_55 : decode cX5_moveTo 55 = .ok (.invokestatic 98, 3) := by decide +kernel
theorem dX5_moveTo_58 : decode cX5_moveTo 58 = .ok (.invokevirtual 133, 3) := by decide +kernel
theorem dX5_moveTo_61 : decode cX5_moveTo 61 = .ok (.return_, 1) := by decide +kernel
theorem dX5_moveToTabStop_0 : decode cX5_moveToTabStop 0 = .ok (.aload_n 0, 1) := by decide +kernel
theorem dX5_moveToTabStop_1 : decode cX5_moveToTabStop 1 = .ok (.getfield 24, 3) := by decide +kernel
theorem dX5_moveToTabStop_4 : decode cX5_moveToTabStop 4 = .ok (.getfield 71, 3) := by decide +kernel
theorem dX5_moveToTabStop_7 : decode cX5_moveToTabStop 7 = .ok (.iconst 1, 1) := by decide +kernel
theorem dX5_moveToTabStop_8 : decode cX5_moveToTabStop 8 = .ok (.iadd, 1) := by decide +kernel
theorem dX5_moveToTabStop_9 : decode cX5_moveToTabStop 9 = .ok (.istore_n 1, 1) := by decide +kernel
theorem dX5_moveToTabStop_10 : decode cX5_moveToTabStop 10 = .ok (.iload_n 1, 1) := by decide +kernel
theorem dX5_moveToTabStop_11 : decode cX5_moveToTabStop 11 = .ok (.bipush 11, 2) := by decide +kernel
theorem dX5_moveToTabStop_13 : decode cX5_moveToTabStop 13 = .ok (.if_icmp .ge 17, 3) := by decide +kernel
theorem dX5_moveToTabStop_16 : decode cX5_moveToTabStop 16 = .ok (.aload_n 0, 1) := by decide +kernel
theorem dX5_moveToTabStop_17 : decode cX5_moveToTabStop 17 = .ok (.iload_n 1, 1) := by decide +kernel
theorem dX5_moveToTabStop_18 : decode cX5_moveToTabStop 18 = .ok (.invokevirtual 142, 3) := by decide +kernel
theorem dX5_moveToTabStop_21 : decode cX5_moveToTabStop 21 = .ok (.ifCond .ne 9, 3) := by decide +kernel
theorem dX5_moveToTabStop_24 : decode cX5_moveToTabStop 24 = .ok (.iinc 1 1, 3) := by decide +kernel
theorem dX5_moveToTabStop_27 : decode cX5_moveToTabStop 27 = .ok (.goto (-17), 3) := by decide +kernel
theorem dX5_moveToTabStop_30 : decode cX5_moveToTabStop 30 = .ok (.aload_n 0, 1) := by decide +kernel
theorem dX5_moveToTabStop_31 : decode cX5_moveToTabStop 31 = .ok (.iload_n 1, 1) := by decide +kernel
theorem dX5_moveToTabStop_32 : decode cX5_moveToTabStop 32 = .ok (.invokevirtual 136, 3) := by decide +kernel
theorem dX5_moveToTabStop_35 : decode cX5_moveToTabStop 35 = .ok (.return_, 1) := by decide +kernel
theorem dX5_hasTabStop_0 : decode cX5_hasTabStop 0 = .ok (.iload_n 1, 1) := by decide +kernel
theorem dX5_hasTabStop_1 : decode cX5_hasTabStop 1 = .ok (.ifCond .lt 25, 3) := by decide +kernel
theorem dX5_hasTabStop_4 : decode cX5_hasTabStop 4 = .ok (.iload_n 1, 1) := by decide +kernel
theorem dX5_hasTabStop_5 : decode cX5_hasTabStop 5 = .ok (.bipush 12, 2) := by decide +kernel
theorem dX5_hasTabStop_7 : decode cX5_hasTabStop 7 = .ok (.if_icmp .ge 19, 3) := by decide +kernel
theorem dX5_hasTabStop_10 : decode cX5_hasTabStop 10 = .ok (.aload_n 0, 1) := by decide +kernel
theorem dX5_hasTabStop_11 : decode cX5_hasTabStop 11 = .ok (.getfield 45, 3) := by decide +kernel
theorem dX5_hasTabStop_14 : decode cX5_hasTabStop 14 = .ok (.iload_n 1, 1) := by decide +kernel
theorem dX5_hasTabStop_15 : decode cX5_hasTabStop 15 = .ok (.ishr, 1) := by decide +kernel
theorem dX5_hasTabStop_16 : decode cX5_hasTabStop 16 = .ok (.iconst 1, 1) := by decide +kernel
theorem dX5_hasTabStop_17 : decode cX5_hasTabStop 17 = .ok (.iand, 1) := by decide +kernel
theorem dX5_hasTabStop_18 : decode cX5_hasTabStop 18 = .ok (.iconst 1, 1) := by decide +kernel
theorem dX5_hasTabStop_19 : decode cX5_hasTabStop 19 = .ok (.if_icmp .ne 7, 3) := by decide +kernel
theorem dX5_hasTabStop_22 : decode cX5_hasTabStop 22 = .ok (.iconst 1, 1) := by decide +kernel
theorem dX5_hasTabStop_23 : decode cX5_hasTabStop 23 = .ok (.goto 4, 3) := by decide +kernel
theorem dX5_hasTabStop_26 : decode cX5_hasTabStop 26 = .ok (.iconst 0, 1) := by decide +kernel
theorem dX5_hasTabStop_27 : decode cX5_hasTabStop 27 = .ok (.ireturn, 1) := by decide +kernel
theorem dX5_setTabStop_0 : decode cX5_setTabStop 0 = .ok (.aload_n 0, 1) := by decide +kernel
theorem dX5_setTabStop_1 : decode cX5_setTabStop 1 = .ok (.dup, 1) := by decide +kernel
theorem dX5_setTabStop_2 : decode cX5_setTabStop 2 = .ok (.getfield 45, 3) := by decide +kernel
theorem dX5_setTabStop_5 : decode cX5_setTabStop 5 = .ok (.iconst 1, 1) := by decide +kernel
theorem dX5_setTabStop_6 : decode cX5_setTabStop 6 = .ok (.aload_n 0, 1) := by decide +kernel
theorem dX5_setTabStop_7 : decode cX5_setTabStop 7 = .ok (.getfield 24, 3) := by decide +kernel
theorem dX5_setTabStop_10 : decode cX5_setTabStop 10 = .ok (.getfield 71, 3) := by decide +kernel
theorem dX5_setTabStop_13 : decode cX5_setTabStop 13 = .ok (.ishl, 1) := by decide +kernel
theorem dX5_setTabStop_14 : decode cX5_setTabStop 14 = .ok (.ior, 1) := by decide +kernel
theorem dX5_setTabStop_15 : decode cX5_setTabStop 15 = .ok (.putfield 45, 3) := by decide +kernel
theorem dX5_setTabStop_18 : decode cX5_setTabStop 18 = .ok (.return_, 1) := by decide +kernel
theorem dX5_removeTabStops_0 : decode cX5_removeTabStops 0 = .ok (.iload_n 1, 1) := by decide +kernel
theorem dX5_removeTabStops_1 : decode cX5_removeTabStops 1 = .ok (.ifCond .ne 26, 3) := by decide +kernel
theorem dX5_removeTabStops_4 : decode cX5_removeTabStops 4 = .ok (.aload_n 0, 1) := by decide +kernel
theorem dX5_removeTabStops_5 : decode cX5_removeTabStops 5 = .ok (.dup, 1) := by decide +kernel
theorem dX5_removeTabStops_6 : decode cX5_removeTabStops 6 = .ok (.getfield 45, 3) := by decide +kernel
theorem dX5_removeTabStops_9 : decode cX5_removeTabStops 9 = .ok (.iconst 1, 1) := by decide +kernel
theorem dX5_removeTabStops_10 : decode cX5_removeTabStops 10 = .ok (.aload_n 0, 1) := by decide +kernel
theorem dX5_removeTabStops_11 : decode cX5_removeTabStops 11 = .ok (.getfield 24, 3) := by decide +kernel
theorem dX5_removeTabStops_14 : decode cX5_removeTabStops 14 = .ok (.getfield 71, 3) := by decide +kernel
theorem dX5_removeTabStops_17 : decode cX5_removeTabStops 17 = .ok (.ishl, 1) := by decide +kernel
theorem dX5_removeTabStops_18 : decode cX5_removeTabStops 18 = .ok (.iconst (-1), 1) := by decide +kernel
theorem dX5_removeTabStops_19 : decode cX5_removeTabStops 19 = .ok (.ixor, 1) := by decide +kernel
theorem dX5_removeTabStops_20 : decode cX5_removeTabStops 20 = .ok (.iand, 1) := by decide +kernel
theorem dX5_removeTabStops_21 : decode cX5_removeTabStops 21 = .ok (.putfield 45, 3) := by decide +kernel
theorem dX5_removeTabStops_24 : decode cX5_removeTabStops 24 = .ok (.goto 13, 3) := by decide +kernel
theorem dX5_removeTabStops_27 : decode cX5_removeTabStops 27 = .ok (.iload_n 1, 1) := by decide +kernel
theorem dX5_removeTabStops_28 : decode cX5_removeTabStops 28 = .ok (.iconst 3, 1) := by decide +kernel
theorem dX5_removeTabStops_29 : decode cX5_removeTabStops 29 = .ok (.if_icmp .ne 8, 3) := by decide +kernel
theorem dX5_removeTabStops_32 : decode cX5_removeTabStops 32 = .ok (.aload_n 0, 1) := by decide +kernel
theorem dX5_removeTabStops_33 : decode cX5_removeTabStops 33 = .ok (.iconst 0, 1) := by decide +kernel
theorem dX5_removeTabStops_34 : decode cX5_removeTabStops 34 = .ok (.putfield 45, 3) := by decide +kernel
theorem dX5_removeTabStops_37 : decode cX5_removeTabStops 37 = .ok (.return_, 1) := by decide +kernel
theorem dX5_setRegion_0 : decode cX5_setRegion 0 = .ok (.iload_n 1, 1) := by decide +kernel
theorem dX5_setRegion_1 : decode cX5_setRegion 1 = .ok (.iload_n 2, 1) := by decide +kernel
theorem dX5_setRegion_2 : decode cX5_setRegion 2 = .ok (.if_icmp .ge 25, 3) := by decide +kernel
theorem dX5_setRegion_5 : decode cX5_setRegion 5 = .ok (.iload_n 2, 1) := by decide +kernel
theorem dX5_setRegion_6 : decode cX5_setRegion 6 = .ok (.bipush 7, 2) := by decide +kernel
theorem dX5_setRegion_8 : decode cX5_setRegion 8 = .ok (.if_icmp .gt 19, 3) := by decide +kernel
theorem dX5_setRegion_11 : decode cX5_setRegion 11 = .ok (.aload_n 0, 1) := by decide +kernel
theorem dX5_setRegion_12 : decode cX5_setRegion 12 = .ok (.iload_n 1, 1) := by decide +kernel
theorem dX5_setRegion_13 : decode cX5_setRegion 13 = .ok (.putfield 38, 3) := by decide +kernel
theorem dX5_setRegion_16 : decode cX5_setRegion 16 = .ok (.aload_n 0, 1) := by decide +kernel
theorem dX5_setRegion_17 : decode cX5_setRegion 17 = .ok (.iload_n 2, 1) := by decide +kernel
theorem dX5_setRegion_18 : decode cX5_setRegion 18 = .ok (.putfield 42, 3) := by decide +kernel
theorem dX5_setRegion_21 : decode cX5_setRegion 21 = .ok (.aload_n 0, 1) := by decide +kernel
theorem dX5_setRegion_22 : decode cX5_setRegion 22 = .ok (.iconst 0, 1) := by decide +kernel
theorem dX5_setRegion_23 : decode cX5_setRegion 23 = .ok (.iconst 0, 1) := by decide +kernel
theorem dX5_setRegion_24 : decode cX5_setRegion 24 = .ok (.invokevirtual 146, 3) := by decide +kernel
theorem dX5_setRegion_27 : decode cX5_setRegion 27 = .ok (.return_, 1) := by decide +kernel
theorem dX5_switchPrivate_0 : decode cX5_switchPrivate 0 = .ok (.iload_n 1, 1) := by decide +kernel
theorem dX5_switchPrivate_1 : decode cX5_switchPrivate 1 = .ok (.lookupswitch 68 #[(6, 35), (7, 52), (47, 60)], 35) := by decide +kernel
theorem dX5_switchPrivate_36 : decode cX5_switchPrivate 36 = .ok (.aload_n 0, 1) := by decide +kernel
theorem dX5_switchPrivate_37 : decode cX5_switchPrivate 37 = .ok (.getfield 24, 3) := by decide +kernel
theorem dX5_switchPrivate_40 : decode cX5_switchPrivate 40 = .ok (.iload_n 2, 1) := by decide +kernel
theorem dX5_switchPrivate_41 : decode cX5_switchPrivate 41 = .ok (.putfield 139, 3) := by decide +kernel
theorem dX5_switchPrivate_44 : decode cX5_switchPrivate 44 = .ok (.aload_n 0, 1) := by decide +kernel
theorem dX5_switchPrivate_45 : decode cX5_switchPrivate 45 = .ok (.iconst 0, 1) := by decide +kernel
theorem dX5_switchPrivate_46 : decode cX5_switchPrivate 46 = .ok (.iconst 0, 1) := by decide +kernel
theorem dX5_switchPrivate_47 : decode cX5_switchPrivate 47 = .ok (.invokevirtual 146, 3) := by decide +kernel
theorem dX5_switchPrivate_50 : decode cX5_switchPrivate 50 = .ok (.goto 19, 3) := by decide +kernel
theorem dX5_switchPrivate_53 : decode cX5_switchPrivate 53 = .ok (.aload_n 0, 1) := by decide +kernel
theorem dX5_switchPrivate_54 : decode cX5_switchPrivate 54 = .ok (.iload_n 2, 1) := by decide +kernel
theorem dX5_switchPrivate_55 : decode cX5_switchPrivate 55 = .ok (.putfield 52, 3) := by decide +kernel
theorem dX5_switchPrivate_58 : decode cX5_switchPrivate 58 = .ok (.goto 11, 3) := by decide +kernel
theorem dX5_switchPrivate_61 : decode cX5_switchPrivate 61 = .ok (.aload_n 0, 1) := by decide +kernel
theorem dX5_switchPrivate_62 : decode cX5_switchPrivate 62 = .ok (.iload_n 2, 1) := by decide +kernel
theorem dX5_switchPrivate_63 : decode cX5_switchPrivate 63 = .ok (.invokevirtual 149, 3) := by decide +kernel
theorem dX5_switchPrivate_66 : decode cX5_switchPrivate 66 = .ok (.goto 3, 3) := by decide +kernel
theorem dX5_switchPrivate_69 : decode cX5_switchPrivate 69 = .ok (.return_, 1) := by decide +kernel
theorem dX5_showPage_0 : decode cX5_showPage 0 = .ok (.iload_n 1, 1) := by decide +kernel
theorem dX5_showPage_1 : decode cX5_showPage 1 = .ok (.ifCond .eq 20, 3) := by decide +kernel
theorem dX5_showPage_4 : decode cX5_showPage 4 = .ok (.aload_n 0, 1) := by decide +kernel
theorem dX5_showPage_5 : decode cX5_showPage 5 = .ok (.getfield 55, 3) := by decide +kernel
theorem dX5_showPage_8 : decode cX5_showPage 8 = .ok (.ifCond .ne 13, 3) := by decide +kernel
theorem dX5_showPage_11 : decode cX5_showPage 11 = .ok (.aload_n 0, 1) := by decide +kernel
theorem dX5_showPage_12 : decode cX5_showPage 12 = .ok (.getfield 18, 3) := by decide +kernel
theorem dX5_showPage_15 : decode cX5_showPage 15 = .ok (.iconst 0, 1) := by decide +kernel
theorem dX5_showPage_16 : decode cX5_showPage 16 = .ok (.bipush 95, 2) := by decide +kernel
theorem dX5_showPage_18 : decode cX5_showPage 18 = .ok (.invokevirtual 31, 3) := by decide +kernel
theorem dX5_showPage_21 : decode cX5_showPage 21 = .ok (.aload_n 0, 1) := by decide +kernel
theorem dX5_showPage_22 : decode cX5_showPage 22 = .ok (.iload_n 1, 1) := by decide +kernel
theorem dX5_showPage_23 : decode cX5_showPage 23 = .ok (.putfield 55, 3) := by decide +kernel
theorem dX5_showPage_26 : decode cX5_showPage 26 = .ok (.return_, 1) := by decide +kernel
theorem dX5_rowToTell_0 : decode cX5_rowToTell 0 = .ok (.aload_n 0, 1) := by decide +kernel
theorem dX5_rowToTell_1 : decode cX5_rowToTell 1 = .ok (.getfield 24, 3) := by decide +kernel
theorem dX5_rowToTell_4 : decode cX5_rowToTell 4 = .ok (.getfield 139, 3) := by decide +kernel
theorem dX5_rowToTell_7 : decode cX5_rowToTell 7 = .ok (.ifCond .ne 13, 3) := by decide +kernel
theorem dX5_rowToTell_10 : decode cX5_rowToTell 10 = .ok (.aload_n 0, 1) := by decide +kernel
theorem dX5_rowToTell_11 : decode cX5_rowToTell 11 = .ok (.getfield 24, 3) := by decide +kernel
theorem dX5_rowToTell_14 : decode cX5_rowToTell 14 = .ok (.getfield 108, 3) := by decide +kernel
theorem dX5_rowToTell_17 : decode cX5_rowToTell 17 = .ok (.iconst 1, 1) := by decide +kernel
theorem dX5_rowToTell_18 : decode cX5_rowToTell 18 = .ok (.iadd, 1) := by decide +kernel
theorem dX5_rowToTell_19 : decode cX5_rowToTell 19 = .ok (.ireturn, 1) := by decide +kernel
theorem dX5_rowToTell_20 : decode cX5_rowToTell 20 = .ok (.aload_n 0, 1) := by decide +kernel
theorem dX5_rowToTell_21 : decode cX5_rowToTell 21 = .ok (.getfield 24, 3) := by decide +kernel
theorem dX5_rowToTell_24 : decode cX5_rowToTell 24 = .ok (.getfield 108, 3) := by decide +kernel
theorem dX5_rowToTell_27 : decode cX5_rowToTell 27 = .ok (.aload_n 0, 1) := by decide +kernel
theorem dX5_rowToTell_28 : decode cX5_rowToTell 28 = .ok (.getfield 38, 3) := by decide +kernel
theorem dX5_rowToTell_31 : decode cX5_rowToTell 31 = .ok (.if_icmp .ge 7, 3) := by decide +kernel
theorem dX5_rowToTell_34 : decode cX5_rowToTell 34 = .ok (.iconst 0, 1) := by decide +kernel
theorem dX5_rowToTell_35 : decode cX5_rowToTell 35 = .ok (.goto 17, 3) := by decide +kernel
theorem dX5_rowToTell_38 : decode cX5_rowToTell 38 = .ok (.aload_n 0, 1) := by decide +kernel
theorem dX5_rowToTell_39 : decode cX5_rowToTell 39 = .ok (.getfield 24, 3) := by decide +kernel
theorem dX5_rowToTell_42 : decode cX5_rowToTell 42 = .ok (.getfield 108, 3) := by decide +kernel
theorem dX5_rowToTell_45 : decode cX5_rowToTell 45 = .ok (.aload_n 0, 1) := by decide +kernel
theorem dX5_rowToTell_46 : decode cX5_rowToTell 46 = .ok (.getfield 38, 3) := by decide +kernel
theorem dX5_rowToTell_49 : decode cX5_rowToTell 49 = .ok (.isub, 1) := by decide +kernel
theorem dX5_rowToTell_50 : decode cX5_rowToTell 50 = .ok (.iconst 1, 1) := by decide +kernel
theorem dX5_rowToTell_51 : decode cX5_rowToTell 51 = .ok (.iadd, 1) := by decide +kernel
theorem dX5_rowToTell_52 : decode cX5_rowToTell 52 = .ok (.ireturn, 1) := by decide +kernel
theorem dX5_isInRegion_0 : decode cX5_isInRegion 0 = .ok (.aload_n 0, 1) := by decide +kernel
theorem dX5_isInRegion_1 : decode cX5_isInRegion 1 = .ok (.getfield 24, 3) := by decide +kernel
theorem dX5_isInRegion_4 : decode cX5_isInRegion 4 = .ok (.getfield 108, 3) := by decide +kernel
theorem dX5_isInRegion_7 : decode cX5_isInRegion 7 = .ok (.aload_n 0, 1) := by decide +kernel
theorem dX5_isInRegion_8 : decode cX5_isInRegion 8 = .ok (.getfield 38, 3) := by decide +kernel
theorem dX5_isInRegion_11 : decode cX5_isInRegion 11 = .ok (.if_icmp .lt 21, 3) := by decide +kernel
theorem dX5_isInRegion_14 : decode cX5_isInRegion 14 = .ok (.aload_n 0, 1) := by decide +kernel
theorem dX5_isInRegion_15 : decode cX5_isInRegion 15 = .ok (.getfield 24, 3) := by decide +kernel
theorem dX5_isInRegion_18 : decode cX5_isInRegion 18 = .ok (.getfield 108, 3) := by decide +kernel
theorem dX5_isInRegion_21 : decode cX5_isInRegion 21 = .ok (.aload_n 0, 1) := by decide +kernel
theorem dX5_isInRegion_22 : decode cX5_isInRegion 22 = .ok (.getfield 42, 3) := by decide +kernel
theorem dX5_isInRegion_25 : decode cX5_isInRegion 25 = .ok (.if_icmp .gt 7, 3) := by decide +kernel
theorem dX5_isInRegion_28 : decode cX5_isInRegion 28 = .ok (.iconst 1, 1) := by decide +kernel
theorem dX5_isInRegion_29 : decode cX5_isInRegion 29 = .ok (.goto 4, 3) := by decide +kernel
theorem dX5_isInRegion_32 : decode cX5_isInRegion 32 = .ok (.iconst 0, 1) := by decide +kernel
theorem dX5_isInRegion_33 : decode cX5_isInRegion 33 = .ok (.ireturn, 1) := by decide +kernel
theorem dX5_cell_0 : decode cX5_cell 0 = .ok (.aload_n 0, 1) := by decide +kernel
theorem dX5_cell_1 : decode cX5_cell 1 = .ok (.invokevirtual 124, 3) := by decide +kernel
theorem dX5_cell_4 : decode cX5_cell 4 = .ok (.aload_n 0, 1) := by decide +kernel
theorem dX5_cell_5 : decode cX5_cell 5 = .ok (.getfield 24, 3) := by decide +kernel
theorem dX5_cell_8 : decode cX5_cell 8 = .ok (.getfield 71, 3) := by decide +kernel
theorem dX5_cell_11 : decode cX5_cell 11 = .ok (.iadd, 1) := by decide +kernel
theorem dX5_cell_12 : decode cX5_cell 12 = .ok (.ireturn, 1) := by decide +kernel
theorem dX5_rowStart_0 : decode cX5_rowStart 0 = .ok (.aload_n 0, 1) := by decide +kernel
theorem dX5_rowStart_1 : decode cX5_rowStart 1 = .ok (.getfield 24, 3) := by decide +kernel
theorem dX5_rowStart_4 : decode cX5_rowStart 4 = .ok (.getfield 108, 3) := by decide +kernel
theorem dX5_rowStart_7 : decode cX5_rowStart 7 = .ok (.bipush 12, 2) := by decide +kernel
theorem dX5_rowStart_9 : decode cX5_rowStart 9 = .ok (.imul, 1) := by decide +kernel
theorem dX5_rowStart_10 : decode cX5_rowStart 10 = .ok (.ireturn, 1) := by decide +kernel
theorem dX5_rowEnd_0 : decode cX5_rowEnd 0 = .ok (.aload_n 0, 1) := by decide +kernel
theorem dX5_rowEnd_1 : decode cX5_rowEnd 1 = .ok (.invokevirtual 124, 3) := by decide +kernel
theorem dX5_rowEnd_4 : decode cX5_rowEnd 4 = .ok (.bipush 11, 2) := by decide +kernel
theorem dX5_rowEnd_6 : decode cX5_rowEnd 6 = .ok (.iadd, 1) := by decide +kernel
theorem dX5_rowEnd_7 : decode cX5_rowEnd 7 = .ok (.ireturn, 1) := by decide +kernel
theorem dX5_regionStart_0 : decode cX5_regionStart 0 = .ok (.aload_n 0, 1) := by decide +kernel
theorem dX5_regionStart_1 : decode cX5_regionStart 1 = .ok (.getfield 38, 3) := by decide +kernel
theorem dX5_regionStart_4 : decode cX5_regionStart 4 = .ok (.bipush 12, 2) := by decide +kernel
theorem dX5_regionStart_6 : decode cX5_regionStart 6 = .ok (.imul, 1) := by decide +kernel
theorem dX5_regionStart_7 : decode cX5_regionStart 7 = .ok (.ireturn, 1) := by decide +kernel
theorem dX5_regionEnd_0 : decode cX5_regionEnd 0 = .ok (.aload_n 0, 1) := by decide +kernel
theorem dX5_regionEnd_1 : decode cX5_regionEnd 1 = .ok (.getfield 42, 3) := by decide +kernel
theorem dX5_regionEnd_4 : decode cX5_regionEnd 4 = .ok (.bipush 12, 2) := by decide +kernel
theorem dX5_regionEnd_6 : decode cX5_regionEnd 6 = .ok (.imul, 1) := by decide +kernel
theorem dX5_regionEnd_7 : decode cX5_regionEnd 7 = .ok (.bipush 11, 2) := by decide +kernel
theorem dX5_regionEnd_9 : decode cX5_regionEnd 9 = .ok (.iadd, 1) := by decide +kernel
theorem dX5_regionEnd_10 : decode cX5_regionEnd 10 = .ok (.ireturn, 1) := by decide +kernel
