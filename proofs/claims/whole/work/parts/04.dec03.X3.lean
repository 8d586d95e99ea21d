theorem dX3_init_0 : decode cX3_init 0 = .ok (.aload_n 0, 1) := by decide +kernel
theorem dX3_init_1 : decode cX3_init 1 = .ok (.invokespecial 3, 3) := by decide +kernel
theorem dX3_init_4 : decode cX3_init 4 = .ok (.aload_n 0, 1) := by decide +kernel
theorem dX3_init_5 : decode cX3_init 5 = .ok (.bipush 96, 2) := by decide +kernel
theorem dX3_init_7 : decode cX3_init 7 = .ok (.newarray .int, 2) := by decide +kernel
theorem dX3_init_9 : decode cX3_init 9 = .ok (.putfield 9, 3) := by decide +kernel
theorem dX3_init_12 : decode cX3_init 12 = .ok (.aload_n 0, 1) := by decide +kernel
theorem dX3_init_13 : decode cX3_init 13 = .ok (.bipush 96, 2) := by decide +kernel
theorem dX3_init_15 : decode cX3_init 15 = .ok (.newarray .int, 2) := by decide +kernel
theorem dX3_init_17 : decode cX3_init 17 = .ok (.putfield 15, 3) := by decide +kernel
theorem dX3_init_20 : decode cX3_init 20 = .ok (.return_, 1) := by decide +kernel
theorem dX3_put_0 : decode cX3_put 0 = .ok (.iload_n 1, 1) := by decide +kernel
theorem dX3_put_1 : decode cX3_put 1 = .ok (.ifCond .lt 9, 3) := by decide +kernel
theorem dX3_put_4 : decode cX3_put 4 = .ok (.iload_n 1, 1) := by decide +kernel
theorem dX3_put_5 : decode cX3_put 5 = .ok (.bipush 96, 2) := by decide +kernel
theorem dX3_put_7 : decode cX3_put 7 = .ok (.if_icmp .lt 4, 3) := by decide +kernel
theorem dX3_put_10 : decode cX3_put 10 = .ok (.return_, 1) := by decide +kernel
theorem dX3_put_11 : decode cX3_put 11 = .ok (.aload_n 0, 1) := by decide +kernel
theorem dX3_put_12 : decode cX3_put 12 = .ok (.getfield 9, 3) := by decide +kernel
theorem dX3_put_15 : decode cX3_put 15 = .ok (.iload_n 1, 1) := by decide +kernel
theorem dX3_put_16 : decode cX3_put 16 = .ok (.iload_n 2, 1) := by decide +kernel
theorem dX3_put_17 : decode cX3_put 17 = .ok (.iastore, 1) := by decide +kernel
theorem dX3_put_18 : decode cX3_put 18 = .ok (.aload_n 0, 1) := by decide +kernel
theorem dX3_put_19 : decode cX3_put 19 = .ok (.getfield 15, 3) := by decide +kernel
theorem dX3_put_22 : decode cX3_put 22 = .ok (.iload_n 1, 1) := by decide +kernel
theorem dX3_put_23 : decode cX3_put 23 = .ok (.iload_n 3, 1) := by decide +kernel
theorem dX3_put_24 : decode cX3_put 24 = .ok (.iastore, 1) := by decide +kernel
theorem dX3_put_25 : decode cX3_put 25 = .ok (.return_, 1) := by decide +kernel
theorem dX3_clear_0 : decode cX3_clear 0 = .ok (.iload_n 1, 1) := by decide +kernel
theorem dX3_clear_1 : decode cX3_clear 1 = .ok (.ifCond .lt 9, 3) := by decide +kernel
theorem dX3_clear_4 : decode cX3_clear 4 = .ok (.iload_n 2, 1) := by decide +kernel
theorem dX3_clear_5 : decode cX3_clear 5 = .ok (.bipush 96, 2) := by decide +kernel
theorem dX3_clear_7 : decode cX3_clear 7 = .ok (.if_icmp .lt 4, 3) := by decide +kernel
theorem dX3_clear_10 : decode cX3_clear 10 = .ok (.return_, 1) := by decide +kernel
theorem dX3_clear_11 : decode cX3_clear 11 = .ok (.iload_n 1, 1) := by decide +kernel
theorem dX3_clear_12 : decode cX3_clear 12 = .ok (.istore_n 3, 1) := by decide +kernel
theorem dX3_clear_13 : decode cX3_clear 13 = .ok (.iload_n 3, 1) := by decide +kernel
theorem dX3_clear_14 : decode cX3_clear 14 = .ok (.iload_n 2, 1) := by decide +kernel
theorem dX3_clear_15 : decode cX3_clear 15 = .ok (.if_icmp .gt 24, 3) := by decide +kernel
theorem dX3_clear_18 : decode cX3_clear 18 = .ok (.aload_n 0, 1) := by decide +kernel
theorem dX3_clear_19 : decode cX3_clear 19 = .ok (.getfield 9, 3) := by decide +kernel
theorem dX3_clear_22 : decode cX3_clear 22 = .ok (.iload_n 3, 1) := by decide +kernel
theorem dX3_clear_23 : decode cX3_clear 23 = .ok (.bipush 32, 2) := by decide +kernel
theorem dX3_clear_25 : decode cX3_clear 25 = .ok (.iastore, 1) := by decide +kernel
theorem dX3_clear_26 : decode cX3_clear 26 = .ok (.aload_n 0, 1) := by decide +kernel
theorem dX3_clear_27 : decode cX3_clear 27 = .ok (.getfield 15, 3) := by decide +kernel
theorem dX3_clear_30 : decode cX3_clear 30 = .ok (.iload_n 3, 1) := by decide +kernel
theorem dX3_clear_31 : decode cX3_clear 31 = .ok (.iconst 0, 1) := by decide +kernel
theorem dX3_clear_32 : decode cX3_clear 32 = .ok (.iastore, 1) := by decide +kernel
theorem dX3_clear_33 : decode cX3_clear 33 = .ok (.iinc 3 1, 3) := by decide +kernel
theorem dX3_clear_36 : decode cX3_clear 36 = .ok (.goto (-23), 3) := by decide +kernel
theorem dX3_clear_39 : decode cX3_clear 39 = .ok (.return_, 1) := by decide +kernel
theorem dX3_pull_0 : decode cX3_pull 0 = .ok (.iload_n 1, 1) := by decide +kernel
theorem dX3_pull_1 : decode cX3_pull 1 = .ok (.ifCond .lt 13, 3) := by decide +kernel
theorem dX3_pull_4 : decode cX3_pull 4 = .ok (.iload_n 2, 1) := by decide +kernel
theorem dX3_pull_5 : decode cX3_pull 5 = .ok (.bipush 96, 2) := by decide +kernel
theorem dX3_pull_7 : decode cX3_pull 7 = .ok (.if_icmp .ge 7, 3) := by decide +kernel
theorem dX3_pull_10 : decode cX3_pull 10 = .ok (.iload_n 3, 1) := by decide +kernel
theorem dX3_pull_11 : decode cX3_pull 11 = .ok (.ifCond .ge 4, 3) := by decide +kernel
theorem dX3_pull_14 : decode cX3_pull 14 = .ok (.return_, 1) := by decide +kernel
theorem dX3_pull_15 : decode cX3_pull 15 = .ok (.iload_n 1, 1) := by decide +kernel
theorem dX3_pull_16 : decode cX3_pull 16 = .ok (.istore 4, 2) := by decide +kernel
theorem dX3_pull_18 : decode cX3_pull 18 = .ok (.iload 4, 2) := by decide +kernel
theorem dX3_pull_20 : decode cX3_pull 20 = .ok (.iload_n 2, 1) := by decide +kernel
theorem dX3_pull_21 : decode cX3_pull 21 = .ok (.if_icmp .gt 75, 3) := by decide +kernel
theorem dX3_pull_24 : decode cX3_pull 24 = .ok (.iload_n 3, 1) := by decide +kernel
theorem dX3_pull_25 : decode cX3_pull 25 = .ok (.iload_n 2, 1) := by decide +kernel
theorem dX3_pull_26 : decode cX3_pull 26 = .ok (.iload 4, 2) := by decide +kernel
theorem dX3_pull_28 : decode cX3_pull 28 = .ok (.isub, 1) := by decide +kernel
theorem dX3_pull_29 : decode cX3_pull 29 = .ok (.if_icmp .gt 7, 3) := by decide +kernel
theorem dX3_pull_32 : decode cX3_pull 32 = .ok (.iconst 1, 1) := by decide +kernel
theorem dX3_pull_33 : decode cX3_pull 33 = .ok (.goto 4, 3) := by decide +kernel
theorem dX3_pull_36 : decode cX3_pull 36 = .ok (.iconst 0, 1) := by decide +kernel
theorem dX3_pull_37 : decode cX3_pull 37 = .ok (.istore 5, 2) := by decide +kernel
theorem dX3_pull_39 : decode cX3_pull 39 = .ok (.aload_n 0, 1) := by decide +kernel
theorem dX3_pull_40 : decode cX3_pull 40 = .ok (.getfield 9, 3) := by decide +kernel
theorem dX3_pull_43 : decode cX3_pull 43 = .ok (.iload 4, 2) := by decide +kernel
theorem dX3_pull_45 : decode cX3_pull 45 = .ok (.iload 5, 2) := by decide +kernel
theorem dX3_pull_47 : decode cX3_pull 47 = .ok (.ifCond .eq 15, 3) := by decide +kernel
theorem dX3_pull_50 : decode cX3_pull 50 = .ok (.aload_n 0, 1) := by decide +kernel
theorem dX3_pull_51 : decode cX3_pull 51 = .ok (.getfield 9, 3) := by decide +kernel
theorem dX3_pull_54 : decode cX3_pull 54 = .ok (.iload 4, 2) := by decide +kernel
theorem dX3_pull_56 : decode cX3_pull 56 = .ok (.iload_n 3, 1) := by decide +kernel
theorem dX3_pull_57 : decode cX3_pull 57 = .ok (.iadd, 1) := by decide +kernel
theorem dX3_pull_58 : decode cX3_pull 58 = .ok (.iaload, 1) := by decide +kernel
theorem dX3_pull_59 : decode cX3_pull 59 = .ok (.goto 5, 3) := by decide +kernel
theorem dX3_pull_62 : decode cX3_pull 62 = .ok (.bipush 32, 2) := by decide +kernel
theorem dX3_pull_64 : decode cX3_pull 64 = .ok (.iastore, 1) := by decide +kernel
theorem dX3_pull_65 : decode cX3_pull 65 = .ok (.aload_n 0, 1) := by decide +kernel
theorem dX3_pull_66 : decode cX3_pull 66 = .ok (.getfield 15, 3) := by decide +kernel
theorem dX3_pull_69 : decode cX3_pull 69 = .ok (.iload 4, 2) := by decide +kernel
theorem dX3_pull_71 : decode cX3_pull 71 = .ok (.iload 5, 2) := by decide +kernel
theorem dX3_pull_73 : decode cX3_pull 73 = .ok (.ifCond .eq 15, 3) := by decide +kernel
theorem dX3_pull_76 : decode cX3_pull 76 = .ok (.aload_n 0, 1) := by decide +kernel
theorem dX3_pull_77 : decode cX3_pull 77 = .ok (.getfield 15, 3) := by decide +kernel
theorem dX3_pull_80 : decode cX3_pull 80 = .ok (.iload 4, 2) := by decide +kernel
theorem dX3_pull_82 : decode cX3_pull 82 = .ok (.iload_n 3, 1) := by decide +kernel
theorem dX3_pull_83 : decode cX3_pull 83 = .ok (.iadd, 1) := by decide +kernel
theorem dX3_pull_84 : decode cX3_pull 84 = .ok (.iaload, 1) := by decide +kernel
theorem dX3_pull_85 : decode cX3_pull 85 = .ok (.goto 4, 3) := by decide +kernel
theorem dX3_pull_88 : decode cX3_pull 88 = .ok (.iconst 0, 1) := by decide +kernel
theorem dX3_pull_89 : decode cX3_pull 89 = .ok (.iastore, 1) := by decide +kernel
theorem dX3_pull_90 : decode cX3_pull 90 = .ok (.iinc 4 1, 3) := by decide +kernel
theorem dX3_pull_93 : decode cX3_pull 93 = .ok (.goto (-75), 3) := by decide +kernel
theorem dX3_pull_96 : decode cX3_pull 96 = .ok (.return_, 1) := by decide +kernel
theorem dX3_push_0 : decode cX3_push 0 = .ok (.iload_n 1, 1) := by decide +kernel
theorem dX3_push_1 : decode cX3_push 1 = .ok (.ifCond .lt 13, 3) := by decide +kernel
theorem dX3_push_4 : decode cX3_push 4 = .ok (.iload_n 2, 1) := by decide +kernel
theorem dX3_push_5 : decode cX3_push 5 = .ok (.bipush 96, 2) := by decide +kernel
theorem dX3_push_7 : decode cX3_push 7 = .ok (.if_icmp .ge 7, 3) := by decide +kernel
theorem dX3_push_10 : decode cX3_push 10 = .ok (.iload_n 3, 1) := by decide +kernel
theorem dX3_push_11 : decode cX3_push 11 = .ok (.ifCond .ge 4, 3) := by decide +kernel
theorem dX3_push_14 : decode cX3_push 14 = .ok (.return_, 1) := by decide +kernel
theorem dX3_push_15 : decode cX3_push 15 = .ok (.iload_n 2, 1) := by decide +kernel
theorem dX3_push_16 : decode cX3_push 16 = .ok (.istore 4, 2) := by decide +kernel
theorem dX3_push_18 : decode cX3_push 18 = .ok (.iload 4, 2) := by decide +kernel
theorem dX3_push_20 : decode cX3_push 20 = .ok (.iload_n 1, 1) := by decide +kernel
theorem dX3_push_21 : decode cX3_push 21 = .ok (.if_icmp .lt 75, 3) := by decide +kernel
theorem dX3_push_24 : decode cX3_push 24 = .ok (.iload_n 3, 1) := by decide +kernel
theorem dX3_push_25 : decode cX3_push 25 = .ok (.iload 4, 2) := by decide +kernel
theorem dX3_push_27 : decode cX3_push 27 = .ok (.iload_n 1, 1) := by decide +kernel
theorem dX3_push_28 : decode cX3_push 28 = .ok (.isub, 1) := by decide +kernel
theorem dX3_push_29 : decode cX3_push 29 = .ok (.if_icmp .gt 7, 3) := by decide +kernel
theorem dX3_push_32 : decode cX3_push 32 = .ok (.iconst 1, 1) := by decide +kernel
theorem dX3_push_33 : decode cX3_push 33 = .ok (.goto 4, 3) := by decide +kernel
theorem dX3_push_36 : decode cX3_push 36 = .ok (.iconst 0, 1) := by decide +kernel
theorem dX3_push_37 : decode cX3_push 37 = .ok (.istore 5, 2) := by decide +kernel
theorem dX3_push_39 : decode cX3_push 39 = .ok (.aload_n 0, 1) := by decide +kernel
theorem dX3_push_40 : decode cX3_push 40 = .ok (.getfield 9, 3) := by decide +kernel
theorem dX3_push_43 : decode cX3_push 43 = .ok (.iload 4, 2) := by decide +kernel
theorem dX3_push_45 : decode cX3_push 45 = .ok (.iload 5, 2) := by decide +kernel
theorem dX3_push_47 : decode cX3_push 47 = .ok (.ifCond .eq 15, 3) := by decide +kernel
theorem dX3_push_50 : decode cX3_push 50 = .ok (.aload_n 0, 1) := by decide +kernel
theorem dX3_push_51 : decode cX3_push 51 = .ok (.getfield 9, 3) := by decide +kernel
theorem dX3_push_54 : decode cX3_push 54 = .ok (.iload 4, 2) := by decide +kernel
theorem dX3_push_56 : decode cX3_push 56 = .ok (.iload_n 3, 1) := by decide +kernel
theorem dX3_push_57 : decode cX3_push 57 = .ok (.isub, 1) := by decide +kernel
theorem dX3_push_58 : decode cX3_push 58 = .ok (.iaload, 1) := by decide +kernel
theorem dX3_push_59 : decode cX3_push 59 = .ok (.goto 5, 3) := by decide +kernel
theorem dX3_push_62 : decode cX3_push 62 = .ok (.bipush 32, 2) := by decide +kernel
theorem dX3_push_64 : decode cX3_push 64 = .ok (.iastore, 1) := by decide +kernel
theorem dX3_push_65 : decode cX3_push 65 = .ok (.aload_n 0, 1) := by decide +kernel
theorem dX3_push_66 : decode cX3_push 66 = .ok (.getfield 15, 3) := by decide +kernel
theorem dX3_push_69 : decode cX3_push 69 = .ok (.iload 4, 2) := by decide +kernel
theorem dX3_push_71 : decode cX3_push 71 = .ok (.iload 5, 2) := by decide +kernel
theorem dX3_push_73 : decode cX3_push 73 = .ok (.ifCond .eq 15, 3) := by decide +kernel
theorem dX3_push_76 : decode cX3_push 76 = .ok (.aload_n 0, 1) := by decide +kernel
theorem dX3_push_77 : decode cX3_push 77 = .ok (.getfield 15, 3) := by decide +kernel
theorem dX3_push_80 : decode cX3_push 80 = .ok (.iload 4, 2) := by decide +kernel
theorem dX3_push_82 : decode cX3_push 82 = .ok (.iload_n 3, 1) := by decide +kernel
theorem dX3_push_83 : decode cX3_push 83 = .ok (.isub, 1) := by decide +kernel
theorem dX3_push_84 : decode cX3_push 84 = .ok (.iaload, 1) := by decide +kernel
theorem dX3_push_85 : decode cX3_push 85 = .ok (.goto 4, 3) := by decide +kernel
theorem dX3_push_88 : decode cX3_push 88 = .ok (.iconst 0, 1) := by decide +kernel
theorem dX3_push_89 : decode cX3_push 89 = .ok (.iastore, 1) := by decide +kernel
theorem dX3_push_90 : decode cX3_push 90 = .ok (.iinc 4 (-1), 3) := by decide +kernel
theorem dX3_push_93 : decode cX3_push 93 = .ok (.goto (-75), 3) := by decide +kernel
theorem dX3_push_96 : decode cX3_push 96 = .ok (.return_, 1) := by decide +kernel
theorem dX3_count_0 : decode cX3_count 0 = .ok (.iconst 0, 1) := by decide +kernel
theorem dX3_count_1 : decode cX3_count 1 = .ok (.istore_n 3, 1) := by decide +kernel
theorem dX3_count_2 : decode cX3_count 2 = .ok (.iconst 0, 1) := by decide +kernel
theorem dX3_count_3 : decode cX3_count 3 = .ok (.istore 4, 2) := by decide +kernel
theorem dX3_count_5 : decode cX3_count 5 = .ok (.iload 4, 2) := by decide +kernel
theorem dX3_count_7 : decode cX3_count 7 = .ok (.bipush 96, 2) := by decide +kernel
theorem dX3_count_9 : decode cX3_count 9 = .ok (.if_icmp .ge 38, 3) := by decide +kernel
theorem dX3_count_12 : decode cX3_count 12 = .ok (.aload_n 0, 1) := by decide +kernel
theorem dX3_count_13 : decode cX3_count 13 = .ok (.getfield 9, 3) := by decide +kernel
theorem dX3_count_16 : decode cX3_count 16 = .ok (.iload 4, 2) := by decide +kernel
theorem dX3_count_18 : decode cX3_count 18 = .ok (.iaload, 1) := by decide +kernel
theorem dX3_count_19 : decode cX3_count 19 = .ok (.iload_n 1, 1) := by decide +kernel
theorem dX3_count_20 : decode cX3_count 20 = .ok (.if_icmp .ne 21, 3) := by decide +kernel
theorem dX3_count_23 : decode cX3_count 23 = .ok (.iload_n 2, 1) := by decide +kernel
theorem dX3_count_24 : decode cX3_count 24 = .ok (.ifCond .lt 14, 3) := by decide +kernel
theorem dX3_count_27 : decode cX3_count 27 = .ok (.aload_n 0, 1) := by decide +kernel
theorem dX3_count_28 : decode cX3_count 28 = .ok (.getfield 15, 3) := by decide +kernel
theorem dX3_count_31 : decode cX3_count 31 = .ok (.iload 4, 2) := by decide +kernel
theorem dX3_count_33 : decode cX3_count 33 = .ok (.iaload, 1) := by decide +kernel
theorem dX3_count_34 : decode cX3_count 34 = .ok (.iload_n 2, 1) := by decide +kernel
theorem dX3_count_35 : decode cX3_count 35 = .ok (.if_icmp .ne 6, 3) := by decide +kernel
theorem dX3_count_38 : decode cX3_count 38 = .ok (.iinc 3 1, 3) := by decide +kernel
theorem dX3_count_41 : decode cX3_count 41 = .ok (.iinc 4 1, 3) := by decide +kernel
theorem dX3_count_44 : decode cX3_count 44 = .ok (.goto (-39), 3) := by decide +kernel
theorem dX3_count_47 : decode cX3_count 47 = .ok (.iload_n 3, 1) := by decide +kernel
theorem dX3_count_48 : decode cX3_count 48 = .ok (.ireturn, 1) := by decide +kernel
