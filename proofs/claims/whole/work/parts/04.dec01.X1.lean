theorem dX1_init_0 : decode cX1_init 0 = .ok (.aload_n 0, 1) := by decide +kernel
theorem dX1_init_1 : decode cX1_init 1 = .ok (.invokespecial 3, 3) := by decide +kernel
theorem dX1_init_4 : decode cX1_init 4 = .ok (.return_, 1) := by decide +kernel
theorem dX1_drop_0 : decode cX1_drop 0 = .ok (.aload_n 0, 1) := by decide +kernel
theorem dX1_drop_1 : decode cX1_drop 1 = .ok (.iconst 0, 1) := by decide +kernel
theorem dX1_drop_2 : decode cX1_drop 2 = .ok (.putfield 9, 3) := by decide +kernel
theorem dX1_drop_5 : decode cX1_drop 5 = .ok (.return_, 1) := by decide +kernel
theorem dX1_begin_0 : decode cX1_begin 0 = .ok (.iload_n 1, 1) := by decide +kernel
theorem dX1_begin_1 : decode cX1_begin 1 = .ok (.sipush 224, 3) := by decide +kernel
theorem dX1_begin_4 : decode cX1_begin 4 = .ok (.if_icmp .ge 18, 3) := by decide +kernel
theorem dX1_begin_7 : decode cX1_begin 7 = .ok (.aload_n 0, 1) := by decide +kernel
theorem dX1_begin_8 : decode cX1_begin 8 = .ok (.iconst 1, 1) := by decide +kernel
theorem dX1_begin_9 : decode cX1_begin 9 = .ok (.iload_n 1, 1) := by decide +kernel
theorem dX1_begin_10 : decode cX1_begin 10 = .ok (.bipush 31, 2) := by decide +kernel
theorem dX1_begin_12 : decode cX1_begin 12 = .ok (.iand, 1) := by decide +kernel
theorem dX1_begin_13 : decode cX1_begin 13 = .ok (.sipush 128, 3) := by decide +kernel
theorem dX1_begin_16 : decode cX1_begin 16 = .ok (.invokevirtual 15, 3) := by decide +kernel
theorem dX1_begin_19 : decode cX1_begin 19 = .ok (.goto 36, 3) := by decide +kernel
theorem dX1_begin_22 : decode cX1_begin 22 = .ok (.iload_n 1, 1) := by decide +kernel
theorem dX1_begin_23 : decode cX1_begin 23 = .ok (.sipush 240, 3) := by decide +kernel
theorem dX1_begin_26 : decode cX1_begin 26 = .ok (.if_icmp .ge 18, 3) := by decide +kernel
theorem dX1_begin_29 : decode cX1_begin 29 = .ok (.aload_n 0, 1) := by decide +kernel
theorem dX1_begin_30 : decode cX1_begin 30 = .ok (.iconst 2, 1) := by decide +kernel
theorem dX1_begin_31 : decode cX1_begin 31 = .ok (.iload_n 1, 1) := by decide +kernel
theorem dX1_begin_32 : decode cX1_begin 32 = .ok (.bipush 15, 2) := by decide +kernel
theorem dX1_begin_34 : decode cX1_begin 34 = .ok (.iand, 1) := by decide +kernel
theorem dX1_begin_35 : decode cX1_begin 35 = .ok (.sipush 2048, 3) := by decide +kernel
theorem dX1_begin_38 : decode cX1_begin 38 = .ok (.invokevirtual 15, 3) := by decide +kernel
theorem dX1_begin_41 : decode cX1_begin 41 = .ok (.goto 14, 3) := by decide +kernel
theorem dX1_begin_44 : decode cX1_begin 44 = .ok (.aload_n 0, 1) := by decide +kernel
theorem dX1_begin_45 : decode cX1_begin 45 = .ok (.iconst 3, 1) := by decide +kernel
theorem dX1_begin_46 : decode cX1_begin 46 = .ok (.iload_n 1, 1) := by decide +kernel
theorem dX1_begin_47 : decode cX1_begin 47 = .ok (.bipush 7, 2) := by decide +kernel
theorem dX1_begin_49 : decode cX1_begin 49 = .ok (.iand, 1) := by decide +kernel
theorem dX1_begin_50 : decode cX1_begin 50 = .ok (.ldc 19, 2) := by decide +kernel
theorem dX1_begin_52 : decode cX1_begin 52 = .ok (.invokevirtual 15, 3) := by decide +kernel
theorem dX1_begin_55 : decode cX1_begin 55 = .ok (.return_, 1) := by decide +kernel
theorem dX1_start_0 : decode cX1_start 0 = .ok (.aload_n 0, 1) := by decide +kernel
theorem dX1_start_1 : decode cX1_start 1 = .ok (.iload_n 1, 1) := by decide +kernel
theorem dX1_start_2 : decode cX1_start 2 = .ok (.putfield 9, 3) := by decide +kernel
theorem dX1_start_5 : decode cX1_start 5 = .ok (.aload_n 0, 1) := by decide +kernel
theorem dX1_start_6 : decode cX1_start 6 = .ok (.iload_n 2, 1) := by decide +kernel
theorem dX1_start_7 : decode cX1_start 7 = .ok (.putfield 20, 3) := by decide +kernel
theorem dX1_start_10 : decode cX1_start 10 = .ok (.aload_n 0, 1) := by decide +kernel
theorem dX1_start_11 : decode cX1_start 11 = .ok (.iload_n 3, 1) := by decide +kernel
theorem dX1_start_12 : decode cX1_start 12 = .ok (.putfield 23, 3) := by decide +kernel
theorem dX1_start_15 : decode cX1_start 15 = .ok (.return_, 1) := by decide +kernel
theorem dX1_add_0 : decode cX1_add 0 = .ok (.aload_n 0, 1) := by decide +kernel
theorem dX1_add_1 : decode cX1_add 1 = .ok (.aload_n 0, 1) := by decide +kernel
theorem dX1_add_2 : decode cX1_add 2 = .ok (.getfield 20, 3) := by decide +kernel
theorem dX1_add_5 : decode cX1_add 5 = .ok (.bipush 6, 2) := by decide +kernel
theorem dX1_add_7 : decode cX1_add 7 = .ok (.ishl, 1) := by decide +kernel
theorem dX1_add_8 : decode cX1_add 8 = .ok (.iload_n 1, 1) := by decide +kernel
theorem dX1_add_9 : decode cX1_add 9 = .ok (.bipush 63, 2) := by decide +kernel
theorem dX1_add_11 : decode cX1_add 11 = .ok (.iand, 1) := by decide +kernel
theorem dX1_add_12 : decode cX1_add 12 = .ok (.ior, 1) := by decide +kernel
theorem dX1_add_13 : decode cX1_add 13 = .ok (.putfield 20, 3) := by decide +kernel
theorem dX1_add_16 : decode cX1_add 16 = .ok (.aload_n 0, 1) := by decide +kernel
theorem dX1_add_17 : decode cX1_add 17 = .ok (.dup, 1) := by decide +kernel
theorem dX1_add_18 : decode cX1_add 18 = .ok (.getfield 9, 3) := by decide +kernel
theorem dX1_add_21 : decode cX1_add 21 = .ok (.iconst 1, 1) := by decide +kernel
theorem dX1_add_22 : decode cX1_add 22 = .ok (.isub, 1) := by decide +kernel
theorem dX1_add_23 : decode cX1_add 23 = .ok (.putfield 9, 3) := by decide +kernel
theorem dX1_add_26 : decode cX1_add 26 = .ok (.return_, 1) := by decide +kernel
theorem dX1_whole_0 : decode cX1_whole 0 = .ok (.aload_n 0, 1) := by decide +kernel
theorem dX1_whole_1 : decode cX1_whole 1 = .ok (.getfield 20, 3) := by decide +kernel
theorem dX1_whole_4 : decode cX1_whole 4 = .ok (.ldc 26, 2) := by decide +kernel
theorem dX1_whole_6 : decode cX1_whole 6 = .ok (.if_icmp .lt 16, 3) := by decide +kernel
theorem dX1_whole_9 : decode cX1_whole 9 = .ok (.aload_n 0, 1) := by decide +kernel
theorem dX1_whole_10 : decode cX1_whole 10 = .ok (.getfield 20, 3) := by decide +kernel
theorem dX1_whole_13 : decode cX1_whole 13 = .ok (.ldc 27, 2) := by decide +kernel
theorem dX1_whole_15 : decode cX1_whole 15 = .ok (.if_icmp .gt 7, 3) := by decide +kernel
theorem dX1_whole_18 : decode cX1_whole 18 = .ok (.iconst 1, 1) := by decide +kernel
theorem dX1_whole_19 : decode cX1_whole 19 = .ok (.goto 4, 3) := by decide +kernel
theorem dX1_whole_22 : decode cX1_whole 22 = .ok (.iconst 0, 1) := by decide +kernel
theorem dX1_whole_23 : decode cX1_whole 23 = .ok (.istore_n 1, 1) := by decide +kernel
theorem dX1_whole_24 : decode cX1_whole 24 = .ok (.aload_n 0, 1) := by decide +kernel
theorem dX1_whole_25 : decode cX1_whole 25 = .ok (.getfield 20, 3) := by decide +kernel
theorem dX1_whole_28 : decode cX1_whole 28 = .ok (.aload_n 0, 1) := by decide +kernel
theorem dX1_whole_29 : decode cX1_whole 29 = .ok (.getfield 23, 3) := by decide +kernel
theorem dX1_whole_32 : decode cX1_whole 32 = .ok (.if_icmp .lt 16, 3) := by decide +kernel
theorem dX1_whole_35 : decode cX1_whole 35 = .ok (.iload_n 1, 1) := by decide +kernel
theorem dX1_whole_36 : decode cX1_whole 36 = .ok (.ifCond .ne 12, 3) := by decide +kernel
theorem dX1_whole_39 : decode cX1_whole 39 = .ok (.aload_n 0, 1) := by decide +kernel
theorem dX1_whole_40 : decode cX1_whole 40 = .ok (.getfield 20, 3) := by decide +kernel
theorem dX1_whole_43 : decode cX1_whole 43 = .ok (.ldc 28, 2) := by decide +kernel
theorem dX1_whole_45 : decode cX1_whole 45 = .ok (.if_icmp .le 8, 3) := by decide +kernel
theorem dX1_whole_48 : decode cX1_whole 48 = .ok (.ldc 29, 2) := by decide +kernel
theorem dX1_whole_50 : decode cX1_whole 50 = .ok (.goto 7, 3) := by decide +kernel
theorem dX1_whole_53 : decode cX1_whole 53 = .ok (.aload_n 0, 1) := by decide +kernel
theorem dX1_whole_54 : decode cX1_whole 54 = .ok (.getfield 20, 3) := by decide +kernel
theorem dX1_whole_57 : decode cX1_whole 57 = .ok (.ireturn, 1) := by decide +kernel
