theorem dX2_init_0 : decode cX2_init 0 = .ok (.aload_n 0, 1) := by decide +kernel
theorem dX2_init_1 : decode cX2_init 1 = .ok (.invokespecial 3, 3) := by decide +kernel
theorem dX2_init_4 : decode cX2_init 4 = .ok (.aload_n 0, 1) := by decide +kernel
theorem dX2_init_5 : decode cX2_init 5 = .ok (.bipush 6, 2) := by decide +kernel
theorem dX2_init_7 : decode cX2_init 7 = .ok (.newarray .int, 2) := by decide +kernel
theorem dX2_init_9 : decode cX2_init 9 = .ok (.putfield 9, 3) := by decide +kernel
theorem dX2_init_12 : decode cX2_init 12 = .ok (.return_, 1) := by decide +kernel
theorem dX2_begin_0 : decode cX2_begin 0 = .ok (.iconst 0, 1) := by decide +kernel
theorem dX2_begin_1 : decode cX2_begin 1 = .ok (.istore_n 1, 1) := by decide +kernel
theorem dX2_begin_2 : decode cX2_begin 2 = .ok (.iload_n 1, 1) := by decide +kernel
theorem dX2_begin_3 : decode cX2_begin 3 = .ok (.bipush 6, 2) := by decide +kernel
theorem dX2_begin_5 : decode cX2_begin 5 = .ok (.if_icmp .ge 16, 3) := by decide +kernel
theorem dX2_begin_8 : decode cX2_begin 8 = .ok (.aload_n 0, 1) := by decide +kernel
theorem dX2_begin_9 : decode cX2_begin 9 = .ok (.getfield 9, 3) := by decide +kernel
theorem dX2_begin_12 : decode cX2_begin 12 = .ok (.iload_n 1, 1) := by decide +kernel
theorem dX2_begin_13 : decode cX2_begin 13 = .ok (.iconst 0, 1) := by decide +kernel
theorem dX2_begin_14 : decode cX2_begin 14 = .ok (.iastore, 1) := by decide +kernel
theorem dX2_begin_15 : decode cX2_begin 15 = .ok (.iinc 1 1, 3) := by decide +kernel
theorem dX2_begin_18 : decode cX2_begin 18 = .ok (.goto (-16), 3) := by decide +kernel
theorem dX2_begin_21 : decode cX2_begin 21 = .ok (.aload_n 0, 1) := by decide +kernel
theorem dX2_begin_22 : decode cX2_begin 22 = .ok (.iconst 0, 1) := by decide +kernel
theorem dX2_begin_23 : decode cX2_begin 23 = .ok (.putfield 15, 3) := by decide +kernel
theorem dX2_begin_26 : decode cX2_begin 26 = .ok (.aload_n 0, 1) := by decide +kernel
theorem dX2_begin_27 : decode cX2_begin 27 = .ok (.iconst 0, 1) := by decide +kernel
theorem dX2_begin_28 : decode cX2_begin 28 = .ok (.putfield 19, 3) := by decide +kernel
theorem dX2_begin_31 : decode cX2_begin 31 = .ok (.return_, 1) := by decide +kernel
theorem dX2_isUntouched_0 : decode cX2_isUntouched 0 = .ok (.aload_n 0, 1) := by decide +kernel
theorem dX2_isUntouched_1 : decode cX2_isUntouched 1 = .ok (.getfield 15, 3) := by decide +kernel
theorem dX2_isUntouched_4 : decode cX2_isUntouched 4 = .ok (.ifCond .ne 14, 3) := by decide +kernel
theorem dX2_isUntouched_7 : decode cX2_isUntouched 7 = .ok (.aload_n 0, 1) := by decide +kernel
theorem dX2_isUntouched_8 : decode cX2_isUntouched 8 = .ok (.getfield 19, 3) := by decide +kernel
theorem dX2_isUntouched_11 : decode cX2_isUntouched 11 = .ok (.ifCond .ne 7, 3) := by decide +kernel
theorem dX2_isUntouched_14 : decode cX2_isUntouched 14 = .ok (.iconst 1, 1) := by decide +kernel
theorem dX2_isUntouched_15 : decode cX2_isUntouched 15 = .ok (.goto 4, 3) := by decide +kernel
theorem dX2_isUntouched_18 : decode cX2_isUntouched 18 = .ok (.iconst 0, 1) := by decide +kernel
theorem dX2_isUntouched_19 : decode cX2_isUntouched 19 = .ok (.ireturn, 1) := by decide +kernel
theorem dX2_addDigit_0 : decode cX2_addDigit 0 = .ok (.aload_n 0, 1) := by decide +kernel
theorem dX2_addDigit_1 : decode cX2_addDigit 1 = .ok (.iconst 1, 1) := by decide +kernel
theorem dX2_addDigit_2 : decode cX2_addDigit 2 = .ok (.aload_n 0, 1) := by decide +kernel
theorem dX2_addDigit_3 : decode cX2_addDigit 3 = .ok (.getfield 15, 3) := by decide +kernel
theorem dX2_addDigit_6 : decode cX2_addDigit 6 = .ok (.invokestatic 23, 3) := by decide +kernel
theorem dX2_addDigit_9 : decode cX2_addDigit 9 = .ok (.putfield 15, 3) := by decide +kernel
theorem dX2_addDigit_12 : decode cX2_addDigit 12 = .ok (.aload_n 0, 1) := by decide +kernel
theorem dX2_addDigit_13 : decode cX2_addDigit 13 = .ok (.getfield 15, 3) := by decide +kernel
theorem dX2_addDigit_16 : decode cX2_addDigit 16 = .ok (.iconst 1, 1) := by decide +kernel
theorem dX2_addDigit_17 : decode cX2_addDigit 17 = .ok (.isub, 1) := by decide +kernel
theorem dX2_addDigit_18 : decode cX2_addDigit 18 = .ok (.istore_n 2, 1) := by decide +kernel
theorem dX2_addDigit_19 : decode cX2_addDigit 19 = .ok (.iload_n 2, 1) := by decide +kernel
theorem dX2_addDigit_20 : decode cX2_addDigit 20 = .ok (.bipush 6, 2) := by decide +kernel
theorem dX2_addDigit_22 : decode cX2_addDigit 22 = .ok (.if_icmp .ge 26, 3) := by decide +kernel
theorem dX2_addDigit_25 : decode cX2_addDigit 25 = .ok (.aload_n 0, 1) := by decide +kernel
theorem dX2_addDigit_26 : decode cX2_addDigit 26 = .ok (.getfield 9, 3) := by decide +kernel
theorem dX2_addDigit_29 : decode cX2_addDigit 29 = .ok (.iload_n 2, 1) := by decide +kernel
theorem dX2_addDigit_30 : decode cX2_addDigit 30 = .ok (.sipush 9999, 3) := by decide +kernel
theorem dX2_addDigit_33 : decode cX2_addDigit 33 = .ok (.aload_n 0, 1) := by decide +kernel
theorem dX2_addDigit_34 : decode cX2_addDigit 34 = .ok (.getfield 9, 3) := by decide +kernel
theorem dX2_addDigit_37 : decode cX2_addDigit 37 = .ok (.iload_n 2, 1) := by decide +kernel
theorem dX2_addDigit_38 : decode cX2_addDigit 38 = .ok (.iaload, 1) := by decide +kernel
theorem dX2_addDigit_39 : decode cX2_addDigit 39 = .ok (.bipush 10, 2) := by decide +kernel
theorem dX2_addDigit_41 : decode cX2_addDigit 41 = .ok (.imul, 1) := by decide +kernel
theorem dX2_addDigit_42 : decode cX2_addDigit 42 = .ok (.iload_n 1, 1) := by decide +kernel
theorem dX2_addDigit_43 : decode cX2_addDigit 43 = .ok (.iadd, 1) := by decide +kernel
theorem dX2_addDigit_44 : decode cX2_addDigit 44 = .ok (.invokestatic 29, 3) := by decide +kernel
theorem dX2_addDigit_47 : decode cX2_addDigit 47 = .ok (.iastore, 1) := by decide +kernel
theorem dX2_addDigit_48 : decode cX2_addDigit 48 = .ok (.return_, 1) := by decide +kernel
theorem dX2_next_0 : decode cX2_next 0 = .ok (.aload_n 0, 1) := by decide +kernel
theorem dX2_next_1 : decode cX2_next 1 = .ok (.bipush 7, 2) := by decide +kernel
theorem dX2_next_3 : decode cX2_next 3 = .ok (.iconst 1, 1) := by decide +kernel
theorem dX2_next_4 : decode cX2_next 4 = .ok (.aload_n 0, 1) := by decide +kernel
theorem dX2_next_5 : decode cX2_next 5 = .ok (.getfield 15, 3) := by decide +kernel
theorem dX2_next_8 : decode cX2_next 8 = .ok (.invokestatic 23, 3) := by decide +kernel
theorem dX2_next_11 : decode cX2_next 11 = .ok (.iconst 1, 1) := by decide +kernel
theorem dX2_next_12 : decode cX2_next 12 = .ok (.iadd, 1) := by decide +kernel
theorem dX2_next_13 : decode cX2_next 13 = .ok (.invokestatic 29, 3) := by decide +kernel
theorem dX2_next_16 : decode cX2_next 16 = .ok (.putfield 15, 3) := by decide +kernel
theorem dX2_next_19 : decode cX2_next 19 = .ok (.return_, 1) := by decide +kernel
theorem dX2_kept_0 : decode cX2_kept 0 = .ok (.aload_n 0, 1) := by decide +kernel
theorem dX2_kept_1 : decode cX2_kept 1 = .ok (.getfield 15, 3) := by decide +kernel
theorem dX2_kept_4 : decode cX2_kept 4 = .ok (.bipush 6, 2) := by decide +kernel
theorem dX2_kept_6 : decode cX2_kept 6 = .ok (.invokestatic 29, 3) := by decide +kernel
theorem dX2_kept_9 : decode cX2_kept 9 = .ok (.ireturn, 1) := by decide +kernel
theorem dX2_valueAt_0 : decode cX2_valueAt 0 = .ok (.iload_n 1, 1) := by decide +kernel
theorem dX2_valueAt_1 : decode cX2_valueAt 1 = .ok (.ifCond .lt 18, 3) := by decide +kernel
theorem dX2_valueAt_4 : decode cX2_valueAt 4 = .ok (.iload_n 1, 1) := by decide +kernel
theorem dX2_valueAt_5 : decode cX2_valueAt 5 = .ok (.bipush 6, 2) := by decide +kernel
theorem dX2_valueAt_7 : decode cX2_valueAt 7 = .ok (.if_icmp .ge 12, 3) := by decide +kernel
theorem dX2_valueAt_10 : decode cX2_valueAt 10 = .ok (.aload_n 0, 1) := by decide +kernel
theorem dX2_valueAt_11 : decode cX2_valueAt 11 = .ok (.getfield 9, 3) := by decide +kernel
theorem dX2_valueAt_14 : decode cX2_valueAt 14 = .ok (.iload_n 1, 1) := by decide +kernel
theorem dX2_valueAt_15 : decode cX2_valueAt 15 = .ok (.iaload, 1) := by decide +kernel
theorem dX2_valueAt_16 : decode cX2_valueAt 16 = .ok (.goto 4, 3) := by decide +kernel
theorem dX2_valueAt_19 : decode cX2_valueAt 19 = .ok (.iconst 0, 1) := by decide +kernel
theorem dX2_valueAt_20 : decode cX2_valueAt 20 = .ok (.ireturn, 1) := by decide +kernel
