theorem dX7_switchInsert_36 : decode cX7_switchInsert 36 = .ok (.goto (-34), 3) := by decide +kernel
theorem dX7_switchInsert_39 : decode cX7_switchInsert 39 = .ok (.return_, 1) := by decide +kernel
theorem dX7_answer_0 : decode cX7_answer 0 = .ok (.iload_n 1, 1) := by decide +kernel
theorem dX7_answer_1 : decode cX7_answer 1 = .ok (.iconst 5, 1) := by decide +kernel
theorem dX7_answer_2 : decode cX7_answer 2 = .ok (.if_icmp .ne 13, 3) := by decide +kernel
theorem dX7_answer_5 : decode cX7_answer 5 = .ok (.aload_n 0, 1) := by decide +kernel
theorem dX7_answer_6 : decode cX7_answer 6 = .ok (.getfield 43, 3) := by decide +kernel
theorem dX7_answer_9 : decode cX7_answer 9 = .ok (.invokevirtual 312, 3) := by decide +kernel
theorem dX7_answer_12 : decode cX7_answer 12 = .ok (.goto 35, 3) := by decide +kernel
theorem dX7_answer_15 : decode cX7_answer 15 = .ok (.iload_n 1, 1) := by decide +kernel
theorem dX7_answer_16 : decode cX7_answer 16 = .ok (.bipush 6, 2) := by decide +kernel
theorem dX7_answer_18 : decode cX7_answer 18 = .ok (.if_icmp .ne 29, 3) := by decide +kernel
theorem dX7_answer_21 : decode cX7_answer 21 = .ok (.aload_n 0, 1) := by decide +kernel
theorem dX7_answer_22 : decode cX7_answer 22 = .ok (.getfield 43, 3) := by decide +kernel
theorem dX7_answer_25 : decode cX7_answer 25 = .ok (.aload_n 0, 1) := by decide +kernel
theorem dX7_answer_26 : decode cX7_answer 26 = .ok (.getfield 12, 3) := by decide +kernel
theorem dX7_answer_29 : decode cX7_answer 29 = .ok (.invokevirtual 315, 3) := by decide +kernel
theorem dX7_answer_32 : decode cX7_answer 32 = .ok (.aload_n 0, 1) := by decide +kernel
theorem dX7_answer_33 : decode cX7_answer 33 = .ok (.getfield 12, 3) := by decide +kernel
theorem dX7_answer_36 : decode cX7_answer 36 = .ok (.getfield 58, 3) := by decide +kernel
theorem dX7_answer_39 : decode cX7_answer 39 = .ok (.getfield 67, 3) := by decide +kernel
theorem dX7_answer_42 : decode cX7_answer 42 = .ok (.iconst 1, 1) := by decide +kernel
theorem dX7_answer_43 : decode cX7_answer 43 = .ok (.iadd, 1) := by decide +kernel
theorem dX7_answer_44 : decode cX7_answer 44 = .ok (.invokevirtual 318, 3) := by decide +kernel
theorem dX7_answer_47 : decode cX7_answer 47 = .ok (.return_, 1) := by decide +kernel
