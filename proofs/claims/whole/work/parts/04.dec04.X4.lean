theorem dX4_init_0 : decode cX4_init 0 = .ok (.aload_n 0, 1) := by decide +kernel
theorem dX4_init_1 : decode cX4_init 1 = .ok (.invokespecial 3, 3) := by decide +kernel
theorem dX4_init_4 : decode cX4_init 4 = .ok (.aload_n 0, 1) := by decide +kernel
theorem dX4_init_5 : decode cX4_init 5 = .ok (.bipush 64, 2) := by decide +kernel
theorem dX4_init_7 : decode cX4_init 7 = .ok (.newarray .int, 2) := by decide +kernel
theorem dX4_init_9 : decode cX4_init 9 = .ok (.putfield 9, 3) := by decide +kernel
theorem dX4_init_12 : decode cX4_init 12 = .ok (.return_, 1) := by decide +kernel
theorem dX4_clear_0 : decode cX4_clear 0 = .ok (.aload_n 0, 1) := by decide +kernel
theorem dX4_clear_1 : decode cX4_clear 1 = .ok (.iconst 0, 1) := by decide +kernel
theorem dX4_clear_2 : decode cX4_clear 2 = .ok (.putfield 15, 3) := by decide +kernel
theorem dX4_clear_5 : decode cX4_clear 5 = .ok (.return_, 1) := by decide +kernel
theorem dX4_addWell_0 : decode cX4_addWell 0 = .ok (.aload_n 0, 1) := by decide +kernel
theorem dX4_addWell_1 : decode cX4_addWell 1 = .ok (.iconst 4, 1) := by decide +kernel
theorem dX4_addWell_2 : decode cX4_addWell 2 = .ok (.invokevirtual 19, 3) := by decide +kernel
theorem dX4_addWell_5 : decode cX4_addWell 5 = .ok (.ifCond .eq 27, 3) := by decide +kernel
theorem dX4_addWell_8 : decode cX4_addWell 8 = .ok (.aload_n 0, 1) := by decide +kernel
theorem dX4_addWell_9 : decode cX4_addWell 9 = .ok (.bipush 27, 2) := by decide +kernel
theorem dX4_addWell_11 : decode cX4_addWell 11 = .ok (.invokevirtual 23, 3) := by decide +kernel
theorem dX4_addWell_14 : decode cX4_addWell 14 = .ok (.aload_n 0, 1) := by decide +kernel
theorem dX4_addWell_15 : decode cX4_addWell 15 = .ok (.bipush 91, 2) := by decide +kernel
theorem dX4_addWell_17 : decode cX4_addWell 17 = .ok (.invokevirtual 23, 3) := by decide +kernel
theorem dX4_addWell_20 : decode cX4_addWell 20 = .ok (.aload_n 0, 1) := by decide +kernel
theorem dX4_addWell_21 : decode cX4_addWell 21 = .ok (.bipush 48, 2) := by decide +kernel
theorem dX4_addWell_23 : decode cX4_addWell 23 = .ok (.invokevirtual 23, 3) := by decide +kernel
theorem dX4_addWell_26 : decode cX4_addWell 26 = .ok (.aload_n 0, 1) := by decide +kernel
theorem dX4_addWell_27 : decode cX4_addWell 27 = .ok (.bipush 110, 2) := by decide +kernel
theorem dX4_addWell_29 : decode cX4_addWell 29 = .ok (.invokevirtual 23, 3) := by decide +kernel
theorem dX4_addWell_32 : decode cX4_addWell 32 = .ok (.return_, 1) := by decide +kernel
theorem dX4_addPosition_0 : decode cX4_addPosition 0 = .ok (.iload_n 2, 1) := by decide +kernel
theorem dX4_addPosition_1 : decode cX4_addPosition 1 = .ok (.bipush 9, 2) := by decide +kernel
theorem dX4_addPosition_3 : decode cX4_addPosition 3 = .ok (.if_icmp .le 7, 3) := by decide +kernel
theorem dX4_addPosition_6 : decode cX4_addPosition 6 = .ok (.iconst 1, 1) := by decide +kernel
theorem dX4_addPosition_7 : decode cX4_addPosition 7 = .ok (.goto 4, 3) := by decide +kernel
theorem dX4_addPosition_10 : decode cX4_addPosition 10 = .ok (.iconst 0, 1) := by decide +kernel
theorem dX4_addPosition_11 : decode cX4_addPosition 11 = .ok (.istore_n 3, 1) := by decide +kernel
theorem dX4_addPosition_12 : decode cX4_addPosition 12 = .ok (.aload_n 0, 1) := by decide +kernel
theorem dX4_addPosition_13 : decode cX4_addPosition 13 = .ok (.iload_n 3, 1) := by decide +kernel
theorem dX4_addPosition_14 : decode cX4_addPosition 14 = .ok (.ifCond .eq 8, 3) := by decide +kernel
theorem dX4_addPosition_17 : decode cX4_addPosition 17 = .ok (.bipush 7, 2) := by decide +kernel
theorem dX4_addPosition_19 : decode cX4_addPosition 19 = .ok (.goto 5, 3) := by decide +kernel
theorem dX4_addPosition_22 : decode cX4_addPosition 22 = .ok (.bipush 6, 2) := by decide +kernel
theorem dX4_addPosition_24 : decode cX4_addPosition 24 = .ok (.invokevirtual 19, 3) := by decide +kernel
theorem dX4_addPosition_27 : decode cX4_addPosition 27 = .ok (.ifCond .ne 4, 3) := by decide +kernel
theorem dX4_addPosition_30 : decode cX4_addPosition 30 = .ok (.return_, 1) := by decide +kernel
theorem dX4_addPosition_31 : decode cX4_addPosition 31 = .ok (.aload_n 0, 1) := by decide +kernel
theorem dX4_addPosition_32 : decode cX4_addPosition 32 = .ok (.bipush 27, 2) := by decide +kernel
theorem dX4_addPosition_34 : decode cX4_addPosition 34 = .ok (.invokevirtual 23, 3) := by decide +kernel
theorem dX4_addPosition_37 : decode cX4_addPosition 37 = .ok (.aload_n 0, 1) := by decide +kernel
theorem dX4_addPosition_38 : decode cX4_addPosition 38 = .ok (.bipush 91, 2) := by decide +kernel
theorem dX4_addPosition_40 : decode cX4_addPosition 40 = .ok (.invokevirtual 23, 3) := by decide +kernel
theorem dX4_addPosition_43 : decode cX4_addPosition 43 = .ok (.aload_n 0, 1) := by decide +kernel
theorem dX4_addPosition_44 : decode cX4_addPosition 44 = .ok (.bipush 48, 2) := by decide +kernel
theorem dX4_addPosition_46 : decode cX4_addPosition 46 = .ok (.iload_n 1, 1) := by decide +kernel
theorem dX4_addPosition_47 : decode cX4_addPosition 47 = .ok (.iadd, 1) := by decide +kernel
theorem dX4_addPosition_48 : decode cX4_addPosition 48 = .ok (.invokevirtual 23, 3) := by decide +kernel
theorem dX4_addPosition_51 : decode cX4_addPosition 51 = .ok (.aload_n 0, 1) := by decide +kernel
theorem dX4_addPosition_52 : decode cX4_addPosition 52 = .ok (.bipush 59, 2) := by decide +kernel
theorem dX4_addPosition_54 : decode cX4_addPosition 54 = .ok (.invokevirtual 23, 3) := by decide +kernel
theorem dX4_addPosition_57 : decode cX4_addPosition 57 = .ok (.iload_n 3, 1) := by decide +kernel
theorem dX4_addPosition_58 : decode cX4_addPosition 58 = .ok (.ifCond .eq 14, 3) := by decide +kernel
theorem dX4_addPosition_61 : decode cX4_addPosition 61 = .ok (.aload_n 0, 1) := by decide +kernel
theorem dX4_addPosition_62 : decode cX4_addPosition 62 = .ok (.bipush 48, 2) := by decide +kernel
theorem dX4_addPosition_64 : decode cX4_addPosition 64 = .ok (.iload_n 2, 1) := by decide +kernel
theorem dX4_addPosition_65 : decode cX4_addPosition 65 = .ok (.bipush 10, 2) := by decide +kernel
theorem dX4_addPosition_67 : decode cX4_addPosition 67 = .ok (.idiv, 1) := by decide +kernel
theorem dX4_addPosition_68 : decode cX4_addPosition 68 = .ok (.iadd, 1) := by decide +kernel
theorem dX4_addPosition_69 : decode cX4_addPosition 69 = .ok (.invokevirtual 23, 3) := by decide +kernel
theorem dX4_addPosition_72 : decode cX4_addPosition 72 = .ok (.aload_n 0, 1) := by decide +kernel
theorem dX4_addPosition_73 : decode cX4_addPosition 73 = .ok (.bipush 48, 2) := by decide +kernel
theorem dX4_addPosition_75 : decode cX4_addPosition 75 = .ok (.iload_n 2, 1) := by decide +kernel
theorem dX4_addPosition_76 : decode cX4_addPosition 76 = .ok (.bipush 10, 2) := by decide +kernel
theorem dX4_addPosition_78 : decode cX4_addPosition 78 = .ok (.irem, 1) := by decide +kernel
theorem dX4_addPosition_79 : decode cX4_addPosition 79 = .ok (.iadd, 1) := by decide +kernel
theorem dX4_addPosition_80 : decode cX4_addPosition 80 = .ok (.invokevirtual 23, 3) := by decide +kernel
theorem dX4_addPosition_83 : decode cX4_addPosition 83 = .ok (.aload_n 0, 1) := by decide +kernel
theorem dX4_addPosition_84 : decode cX4_addPosition 84 = .ok (.bipush 82, 2) := by decide +kernel
theorem dX4_addPosition_86 : decode cX4_addPosition 86 = .ok (.invokevirtual 23, 3) := by decide +kernel
theorem dX4_addPosition_89 : decode cX4_addPosition 89 = .ok (.return_, 1) := by decide +kernel
theorem dX4_takeFirst_0 : decode cX4_takeFirst 0 = .ok (.aload_n 0, 1) := by decide +kernel
theorem dX4_takeFirst_1 : decode cX4_takeFirst 1 = .ok (.getfield 9, 3) := by decide +kernel
theorem dX4_takeFirst_4 : decode cX4_takeFirst 4 = .ok (.iconst 0, 1) := by decide +kernel
theorem dX4_takeFirst_5 : decode cX4_takeFirst 5 = .ok (.iaload, 1) := by decide +kernel
theorem dX4_takeFirst_6 : decode cX4_takeFirst 6 = .ok (.istore_n 1, 1) := by decide +kernel
theorem dX4_takeFirst_7 : decode cX4_takeFirst 7 = .ok (.iconst 1, 1) := by decide +kernel
theorem dX4_takeFirst_8 : decode cX4_takeFirst 8 = .ok (.istore_n 2, 1) := by decide +kernel
theorem dX4_takeFirst_9 : decode cX4_takeFirst 9 = .ok (.iload_n 2, 1) := by decide +kernel
theorem dX4_takeFirst_10 : decode cX4_takeFirst 10 = .ok (.bipush 64, 2) := by decide +kernel
theorem dX4_takeFirst_12 : decode cX4_takeFirst 12 = .ok (.if_icmp .ge 23, 3) := by decide +kernel
theorem dX4_takeFirst_15 : decode cX4_takeFirst 15 = .ok (.aload_n 0, 1) := by decide +kernel
theorem dX4_takeFirst_16 : decode cX4_takeFirst 16 = .ok (.getfield 9, 3) := by decide +kernel
theorem dX4_takeFirst_19 : decode cX4_takeFirst 19 = .ok (.iload_n 2, 1) := by decide +kernel
theorem dX4_takeFirst_20 : decode cX4_takeFirst 20 = .ok (.iconst 1, 1) := by decide +kernel
theorem dX4_takeFirst_21 : decode cX4_takeFirst 21 = .ok (.isub, 1) := by decide +kernel
theorem dX4_takeFirst_22 : decode cX4_takeFirst 22 = .ok (.aload_n 0, 1) := by decide +kernel
theorem dX4_takeFirst_23 : decode cX4_takeFirst 23 = .ok (.getfield 9, 3) := by decide +kernel
theorem dX4_takeFirst_26 : decode cX4_takeFirst 26 = .ok (.iload_n 2, 1) := by decide +kernel
theorem dX4_takeFirst_27 : decode cX4_takeFirst 27 = .ok (.iaload, 1) := by decide +kernel
theorem dX4_takeFirst_28 : decode cX4_takeFirst 28 = .ok (.iastore, 1) := by decide +kernel
theorem dX4_takeFirst_29 : decode cX4_takeFirst 29 = .ok (.iinc 2 1, 3) := by decide +kernel
theorem dX4_takeFirst_32 : decode cX4_takeFirst 32 = .ok (.goto (-23), 3) := by decide +kernel
theorem dX4_takeFirst_35 : decode cX4_takeFirst 35 = .ok (.aload_n 0, 1) := by decide +kernel
theorem dX4_takeFirst_36 : decode cX4_takeFirst 36 = .ok (.dup, 1) := by decide +kernel
theorem dX4_takeFirst_37 : decode cX4_takeFirst 37 = .ok (.getfield 15, 3) := by decide +kernel
theorem dX4_takeFirst_40 : decode cX4_takeFirst 40 = .ok (.iconst 1, 1) := by decide +kernel
theorem dX4_takeFirst_41 : decode cX4_takeFirst 41 = .ok (.isub, 1) := by decide +kernel
theorem dX4_takeFirst_42 : decode cX4_takeFirst 42 = .ok (.putfield 15, 3) := by decide +kernel
theorem dX4_takeFirst_45 : decode cX4_takeFirst 45 = .ok (.iload_n 1, 1) := by decide +kernel
theorem dX4_takeFirst_46 : decode cX4_takeFirst 46 = .ok (.ireturn, 1) := by decide +kernel
theorem dX4_hasRoom_0 : decode cX4_hasRoom 0 = .ok (.aload_n 0, 1) := by decide +kernel
theorem dX4_hasRoom_1 : decode cX4_hasRoom 1 = .ok (.getfield 15, 3) := by decide +kernel
theorem dX4_hasRoom_4 : decode cX4_hasRoom 4 = .ok (.iload_n 1, 1) := by decide +kernel
theorem dX4_hasRoom_5 : decode cX4_hasRoom 5 = .ok (.iadd, 1) := by decide +kernel
theorem dX4_hasRoom_6 : decode cX4_hasRoom 6 = .ok (.bipush 64, 2) := by decide +kernel
theorem dX4_hasRoom_8 : decode cX4_hasRoom 8 = .ok (.if_icmp .gt 7, 3) := by decide +kernel
theorem dX4_hasRoom_11 : decode cX4_hasRoom 11 = .ok (.iconst 1, 1) := by decide +kernel
theorem dX4_hasRoom_12 : decode cX4_hasRoom 12 = .ok (.goto 4, 3) := by decide +kernel
theorem dX4_hasRoom_15 : decode cX4_hasRoom 15 = .ok (.iconst 0, 1) := by decide +kernel
theorem dX4_hasRoom_16 : decode cX4_hasRoom 16 = .ok (.ireturn, 1) := by decide +kernel
theorem dX4_add_0 : decode cX4_add 0 = .ok (.aload_n 0, 1) := by decide +kernel
theorem dX4_add_1 : decode cX4_add 1 = .ok (.getfield 15, 3) := by decide +kernel
theorem dX4_add_4 : decode cX4_add 4 = .ok (.ifCond .lt 32, 3) := by decide +kernel
theorem dX4_add_7 : decode cX4_add 7 = .ok (.aload_n 0, 1) := by decide +kernel
theorem dX4_add_8 : decode cX4_add 8 = .ok (.getfield 15, 3) := by decide +kernel
theorem dX4_add_11 : decode cX4_add 11 = .ok (.bipush 64, 2) := by decide +kernel
theorem dX4_add_13 : decode cX4_add 13 = .ok (.if_icmp .ge 23, 3) := by decide +kernel
theorem dX4_add_16 : decode cX4_add 16 = .ok (.aload_n 0, 1) := by decide +kernel
theorem dX4_add_17 : decode cX4_add 17 = .ok (.getfield 9, 3) := by decide +kernel
theorem dX4_add_20 : decode cX4_add 20 = .ok (.aload_n 0, 1) := by decide +kernel
theorem dX4_add_21 : decode cX4_add 21 = .ok (.getfield 15, 3) := by decide +kernel
theorem dX4_add_24 : decode cX4_add 24 = .ok (.iload_n 1, 1) := by decide +kernel
theorem dX4_add_25 : decode cX4_add 25 = .ok (.iastore, 1) := by decide +kernel
theorem dX4_add_26 : decode cX4_add 26 = .ok (.aload_n 0, 1) := by decide +kernel
theorem dX4_add_27 : decode cX4_add 27 = .ok (.dup, 1) := by decide +kernel
theorem dX4_add_28 : decode cX4_add 28 = .ok (.getfield 15, 3) := by decide +kernel
theorem dX4_add_31 : decode cX4_add 31 = .ok (.iconst 1, 1) := by decide +kernel
theorem dX4_add_32 : decode cX4_add 32 = .ok (.iadd, 1) := by decide +kernel
theorem dX4_add_33 : decode cX4_add 33 = .ok (.putfield 15, 3) := by decide +kernel
theorem dX4_add_36 : decode cX4_add 36 = .ok (.return_, 1) := by decide +kernel
