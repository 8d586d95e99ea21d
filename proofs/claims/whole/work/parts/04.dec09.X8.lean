theorem dX8_init_0 : decode cX8_init 0 = .ok (.aload_n 0, 1) := by decide +kernel
theorem dX8_init_1 : decode cX8_init 1 = .ok (.invokespecial 1, 3) := by decide +kernel
theorem dX8_init_4 : decode cX8_init 4 = .ok (.aload_n 0, 1) := by decide +kernel
theorem dX8_init_5 : decode cX8_init 5 = .ok (.sipush 192, 3) := by decide +kernel
theorem dX8_init_8 : decode cX8_init 8 = .ok (.newarray .int, 2) := by decide +kernel
theorem dX8_init_10 : decode cX8_init 10 = .ok (.putfield 7, 3) := by decide +kernel
theorem dX8_init_13 : decode cX8_init 13 = .ok (.aload_n 0, 1) := by decide +kernel
theorem dX8_init_14 : decode cX8_init 14 = .ok (.sipush 192, 3) := by decide +kernel
theorem dX8_init_17 : decode cX8_init 17 = .ok (.newarray .int, 2) := by decide +kernel
theorem dX8_init_19 : decode cX8_init 19 = .ok (.putfield 13, 3) := by decide +kernel
theorem dX8_init_22 : decode cX8_init 22 = .ok (.aload_n 0, 1) := by decide +kernel
theorem dX8_init_23 : decode cX8_init 23 = .ok (.bipush 96, 2) := by decide +kernel
theorem dX8_init_25 : decode cX8_init 25 = .ok (.newarray .int, 2) := by decide +kernel
theorem dX8_init_27 : decode cX8_init 27 = .ok (.putfield 16, 3) := by decide +kernel
theorem dX8_init_30 : decode cX8_init 30 = .ok (.aload_n 0, 1) := by decide +kernel
theorem dX8_init_31 : decode cX8_init 31 = .ok (.bipush 96, 2) := by decide +kernel
theorem dX8_init_33 : decode cX8_init 33 = .ok (.newarray .int, 2) := by decide +kernel
theorem dX8_init_35 : decode cX8_init 35 = .ok (.putfield 19, 3) := by decide +kernel
theorem dX8_init_38 : decode cX8_init 38 = .ok (.aload_n 0, 1) := by decide +kernel
theorem dX8_init_39 : decode cX8_init 39 = .ok (.bipush 12, 2) := by decide +kernel
theorem dX8_init_41 : decode cX8_init 41 = .ok (.newarray .boolean, 2) := by decide +kernel
theorem dX8_init_43 : decode cX8_init 43 = .ok (.putfield 22, 3) := by decide +kernel
theorem dX8_init_46 : decode cX8_init 46 = .ok (.aload_n 0, 1) := by decide +kernel
theorem dX8_init_47 : decode cX8_init 47 = .ok (.bipush 64, 2) := by decide +kernel
theorem dX8_init_49 : decode cX8_init 49 = .ok (.newarray .int, 2) := by decide +kernel
theorem dX8_init_51 : decode cX8_init 51 = .ok (.putfield 26, 3) := by decide +kernel
theorem dX8_init_54 : decode cX8_init 54 = .ok (.aload_n 0, 1) := by decide +kernel
theorem dX8_init_55 : decode cX8_init 55 = .ok (.bipush 16, 2) := by decide +kernel
theorem dX8_init_57 : decode cX8_init 57 = .ok (.newarray .int, 2) := by decide +kernel
theorem dX8_init_59 : decode cX8_init 59 = .ok (.putfield 29, 3) := by decide +kernel
theorem dX8_init_62 : decode cX8_init 62 = .ok (.aload_n 0, 1) := by decide +kernel
theorem dX8_init_63 : decode cX8_init 63 = .ok (.bipush 16, 2) := by decide +kernel
theorem dX8_init_65 : decode cX8_init 65 = .ok (.newarray .int, 2) := by decide +kernel
theorem dX8_init_67 : decode cX8_init 67 = .ok (.putfield 32, 3) := by decide +kernel
theorem dX8_init_70 : decode cX8_init 70 = .ok (.aload_n 0, 1) := by decide +kernel
theorem dX8_init_71 : decode cX8_init 71 = .ok (.bipush 6, 2) := by decide +kernel
theorem dX8_init_73 : decode cX8_init 73 = .ok (.newarray .int, 2) := by decide +kernel
theorem dX8_init_75 : decode cX8_init 75 = .ok (.putfield 35, 3) := by decide +kernel
theorem dX8_init_78 : decode cX8_init 78 = .ok (.aload_n 0, 1) := by decide +kernel
theorem dX8_init_79 : decode cX8_init 79 = .ok (.invokevirtual 38, 3) := by decide +kernel
theorem dX8_init_82 : decode cX8_init 82 = .ok (.return_, 1) := by decide +kernel
theorem dX8_thrown_0 : decode cX8_thrown 0 = .ok (.aload_n 0, 1) := by decide +kernel
theorem dX8_thrown_1 : decode cX8_thrown 1 = .ok (.getfield 41, 3) := by decide +kernel
theorem dX8_thrown_4 : decode cX8_thrown 4 = .ok (.ireturn, 1) := by decide +kernel
theorem dX8_first_0 : decode cX8_first 0 = .ok (.iconst 0, 1) := by decide +kernel
theorem dX8_first_1 : decode cX8_first 1 = .ok (.istore_n 1, 1) := by decide +kernel
theorem dX8_first_2 : decode cX8_first 2 = .ok (.iload_n 1, 1) := by decide +kernel
theorem dX8_first_3 : decode cX8_first 3 = .ok (.sipush 192, 3) := by decide +kernel
theorem dX8_first_6 : decode cX8_first 6 = .ok (.if_icmp .ge 14, 3) := by decide +kernel
theorem dX8_first_9 : decode cX8_first 9 = .ok (.aload_n 0, 1) := by decide +kernel
theorem dX8_first_10 : decode cX8_first 10 = .ok (.iload_n 1, 1) := by decide +kernel
theorem dX8_first_11 : decode cX8_first 11 = .ok (.invokevirtual 45, 3) := by decide +kernel
theorem dX8_first_14 : decode cX8_first 14 = .ok (.iinc 1 1, 3) := by decide +kernel
theorem dX8_first_17 : decode cX8_first 17 = .ok (.goto (-15), 3) := by decide +kernel
theorem dX8_first_20 : decode cX8_first 20 = .ok (.aload_n 0, 1) := by decide +kernel
theorem dX8_first_21 : decode cX8_first 21 = .ok (.iconst 0, 1) := by decide +kernel
theorem dX8_first_22 : decode cX8_first 22 = .ok (.putfield 49, 3) := by decide +kernel
theorem dX8_first_25 : decode cX8_first 25 = .ok (.aload_n 0, 1) := by decide +kernel
theorem dX8_first_26 : decode cX8_first 26 = .ok (.iconst 0, 1) := by decide +kernel
theorem dX8_first_27 : decode cX8_first 27 = .ok (.iconst 0, 1) := by decide +kernel
theorem dX8_first_28 : decode cX8_first 28 = .ok (.invokevirtual 52, 3) := by decide +kernel
theorem dX8_first_31 : decode cX8_first 31 = .ok (.aload_n 0, 1) := by decide +kernel
theorem dX8_first_32 : decode cX8_first 32 = .ok (.iconst 0, 1) := by decide +kernel
theorem dX8_first_33 : decode cX8_first 33 = .ok (.invokevirtual 56, 3) := by decide +kernel
theorem dX8_first_36 : decode cX8_first 36 = .ok (.aload_n 0, 1) := by decide +kernel
theorem dX8_first_37 : decode cX8_first 37 = .ok (.iconst 0, 1) := by decide +kernel
theorem dX8_first_38 : decode cX8_first 38 = .ok (.putfield 59, 3) := by decide +kernel
theorem dX8_first_41 : decode cX8_first 41 = .ok (.aload_n 0, 1) := by decide +kernel
theorem dX8_first_42 : decode cX8_first 42 = .ok (.bipush 7, 2) := by decide +kernel
theorem dX8_first_44 : decode cX8_first 44 = .ok (.putfield 62, 3) := by decide +kernel
theorem dX8_first_47 : decode cX8_first 47 = .ok (.iconst 0, 1) := by decide +kernel
theorem dX8_first_48 : decode cX8_first 48 = .ok (.istore_n 1, 1) := by decide +kernel
theorem dX8_first_49 : decode cX8_first 49 = .ok (.iload_n 1, 1) := by decide +kernel
theorem dX8_first_50 : decode cX8_first 50 = .ok (.bipush 12, 2) := by decide +kernel
theorem dX8_first_52 : decode cX8_first 52 = .ok (.if_icmp .ge 31, 3) := by decide +kernel
theorem dX8_first_55 : decode cX8_first 55 = .ok (.aload_n 0, 1) := by decide +kernel
theorem dX8_first_56 : decode cX8_first 56 = .ok (.getfield 22, 3) := by decide +kernel
theorem dX8_first_59 : decode cX8_first 59 = .ok (.iload_n 1, 1) := by decide +kernel
theorem dX8_first_60 : decode cX8_first 60 = .ok (.iload_n 1, 1) := by decide +kernel
theorem dX8_first_61 : decode cX8_first 61 = .ok (.iconst 4, 1) := by decide +kernel
theorem dX8_first_62 : decode cX8_first 62 = .ok (.if_icmp .eq 9, 3) := by decide +kernel
theorem dX8_first_65 : decode cX8_first 65 = .ok (.iload_n 1, 1) := by decide +kernel
theorem dX8_first_66 : decode cX8_first 66 = .ok (.bipush 8, 2) := by decide +kernel
theorem dX8_first_68 : decode cX8_first 68 = .ok (.if_icmp .ne 7, 3) := by decide +kernel
theorem dX8_first_71 : decode cX8_first 71 = .ok (.iconst 1, 1) := by decide +kernel
theorem dX8_first_72 : decode cX8_first 72 = .ok (.goto 4, 3) := by decide +kernel
theorem dX8_first_75 : decode cX8_first 75 = .ok (.iconst 0, 1) := by decide +kernel
theorem dX8_first_76 : decode cX8_first 76 = .ok (.bastore, 1) := by decide +kernel
theorem dX8_first_77 : decode cX8_first 77 = .ok (.iinc 1 1, 3) := by decide +kernel
theorem dX8_first_80 : decode cX8_first 80 = .ok (.goto (-31), 3) := by decide +kernel
theorem dX8_first_83 : decode cX8_first 83 = .ok (.aload_n 0, 1) := by decide +kernel
theorem dX8_first_84 : decode cX8_first 84 = .ok (.iconst 0, 1) := by decide +kernel
theorem dX8_first_85 : decode cX8_first 85 = .ok (.putfield 65, 3) := by decide +kernel
theorem dX8_first_88 : decode cX8_first 88 = .ok (.aload_n 0, 1) := by decide +kernel
theorem dX8_first_89 : decode cX8_first 89 = .ok (.iconst 0, 1) := by decide +kernel
theorem dX8_first_90 : decode cX8_first 90 = .ok (.putfield 69, 3) := by decide +kernel
theorem dX8_first_93 : decode cX8_first 93 = .ok (.aload_n 0, 1) := by decide +kernel
theorem dX8_first_94 : decode cX8_first 94 = .ok (.iconst 1, 1) := by decide +kernel
theorem dX8_first_95 : decode cX8_first 95 = .ok (.putfield 72, 3) := by decide +kernel
theorem dX8_first_98 : decode cX8_first 98 = .ok (.aload_n 0, 1) := by decide +kernel
theorem dX8_first_99 : decode cX8_first 99 = .ok (.invokevirtual 75, 3) := by decide +kernel
theorem dX8_first_102 : decode cX8_first 102 = .ok (.aload_n 0, 1) := by decide +kernel
theorem dX8_first_103 : decode cX8_first 103 = .ok (.iconst (-1), 1) := by decide +kernel
theorem dX8_first_104 : decode cX8_first 104 = .ok (.putfield 78, 3) := by decide +kernel
theorem dX8_first_107 : decode cX8_first 107 = .ok (.aload_n 0, 1) := by decide +kernel
theorem dX8_first_108 : decode cX8_first 108 = .ok (.iconst 0, 1) := by decide +kernel
theorem dX8_first_109 : decode cX8_first 109 = .ok (.putfield 81, 3) := by decide +kernel
theorem dX8_first_112 : decode cX8_first 112 = .ok (.aload_n 0, 1) := by decide +kernel
theorem dX8_first_113 : decode cX8_first 113 = .ok (.iconst 0, 1) := by decide +kernel
theorem dX8_first_114 : decode cX8_first 114 = .ok (.putfield 84, 3) := by decide +kernel
theorem dX8_first_117 : decode cX8_first 117 = .ok (.aload_n 0, 1) := by decide +kernel
theorem dX8_first_118 : decode cX8_first 118 = .ok (.iconst 0, 1) := by decide +kernel
theorem dX8_first_119 : decode cX8_first 119 = .ok (.putfield 87, 3) := by decide +kernel
theorem dX8_first_122 : decode cX8_first 122 = .ok (.aload_n 0, 1) := by decide +kernel
theorem dX8_first_123 : decode cX8_first 123 = .ok (.iconst 0, 1) := by decide +kernel
theorem dX8_first_124 : decode cX8_first 124 = .ok (.putfield 90, 3) := by decide +kernel
theorem dX8_first_127 : decode cX8_first 127 = .ok (.aload_n 0, 1) := by decide +kernel
theorem dX8_first_128 : decode cX8_first 128 = .ok (.iconst 0, 1) := by decide +kernel
theorem dX8_first_129 : decode cX8_first 129 = .ok (.putfield 93, 3) := by decide +kernel
theorem dX8_first_132 : decode cX8_first 132 = .ok (.return_, 1) := by decide +kernel
theorem dX8_blank_0 : decode cX8_blank 0 = .ok (.aload_n 0, 1) := by decide +kernel
theorem dX8_blank_1 : decode cX8_blank 1 = .ok (.getfield 7, 3) := by decide +kernel
theorem dX8_blank_4 : decode cX8_blank 4 = .ok (.iload_n 1, 1) := by decide +kernel
theorem dX8_blank_5 : decode cX8_blank 5 = .ok (.bipush 32, 2) := by decide +kernel
theorem dX8_blank_7 : decode cX8_blank 7 = .ok (.iastore, 1) := by decide +kernel
theorem dX8_blank_8 : decode cX8_blank 8 = .ok (.aload_n 0, 1) := by decide +kernel
theorem dX8_blank_9 : decode cX8_blank 9 = .ok (.getfield 13, 3) := by decide +kernel
theorem dX8_blank_12 : decode cX8_blank 12 = .ok (.iload_n 1, 1) := by decide +kernel
theorem dX8_blank_13 : decode cX8_blank 13 = .ok (.iconst 0, 1) := by decide +kernel
theorem dX8_blank_14 : decode cX8_blank 14 = .ok (.iastore, 1) := by decide +kernel
theorem dX8_blank_15 : decode cX8_blank 15 = .ok (.return_, 1) := by decide +kernel
theorem dX8_place_0 : decode cX8_place 0 = .ok (.aload_n 0, 1) := by decide +kernel
theorem dX8_place_1 : decode cX8_place 1 = .ok (.iload_n 1, 1) := by decide +kernel
theorem dX8_place_2 : decode cX8_place 2 = .ok (.putfield 96, 3) := by decide +kernel
theorem dX8_place_5 : decode cX8_place 5 = .ok (.aload_n 0, 1) := by decide +kernel
theorem dX8_place_6 : decode cX8_place 6 = .ok (.iload_n 2, 1) := by decide +kernel
theorem dX8_place_7 : decode cX8_place 7 = .ok (.putfield 99, 3) := by decide +kernel
theorem dX8_place_10 : decode cX8_place 10 = .ok (.aload_n 0, 1) := by decide +kernel
theorem dX8_place_11 : decode cX8_place 11 = .ok (.iconst 0, 1) := by decide +kernel
theorem dX8_place_12 : decode cX8_place 12 = .ok (.putfield 102, 3) := by decide +kernel
theorem dX8_place_15 : decode cX8_place 15 = .ok (.return_, 1) := by decide +kernel
theorem dX8_penNow_0 : decode cX8_penNow 0 = .ok (.aload_n 0, 1) := by decide +kernel
theorem dX8_penNow_1 : decode cX8_penNow 1 = .ok (.getfield 105, 3) := by decide +kernel
theorem dX8_penNow_4 : decode cX8_penNow 4 = .ok (.iconst 2, 1) := by decide +kernel
theorem dX8_penNow_5 : decode cX8_penNow 5 = .ok (.aload_n 0, 1) := by decide +kernel
theorem dX8_penNow_6 : decode cX8_penNow 6 = .ok (.getfield 108, 3) := by decide +kernel
theorem dX8_penNow_9 : decode cX8_penNow 9 = .ok (.imul, 1) := by decide +kernel
theorem dX8_penNow_10 : decode cX8_penNow 10 = .ok (.iadd, 1) := by decide +kernel
theorem dX8_penNow_11 : decode cX8_penNow 11 = .ok (.iconst 4, 1) := by decide +kernel
theorem dX8_penNow_12 : decode cX8_penNow 12 = .ok (.aload_n 0, 1) := by decide +kernel
theorem dX8_penNow_13 : decode cX8_penNow 13 = .ok (.getfield 111, 3) := by decide +kernel
theorem dX8_penNow_16 : decode cX8_penNow 16 = .ok (.imul, 1) := by decide +kernel
theorem dX8_penNow_17 : decode cX8_penNow 17 = .ok (.iadd, 1) := by decide +kernel
theorem dX8_penNow_18 : decode cX8_penNow 18 = .ok (.bipush 8, 2) := by decide +kernel
theorem dX8_penNow_20 : decode cX8_penNow 20 = .ok (.aload_n 0, 1) := by decide +kernel
theorem dX8_penNow_21 : decode cX8_penNow 21 = .ok (.getfield 114, 3) := by decide +kernel
theorem dX8_penNow_24 : decode cX8_penNow 24 = .ok (.imul, 1) := by decide +kernel
theorem dX8_penNow_25 : decode cX8_penNow 25 = .ok (.iadd, 1) := by decide +kernel
theorem dX8_penNow_26 : decode cX8_penNow 26 = .ok (.sipush 128, 3) := by decide +kernel
theorem dX8_penNow_29 : decode cX8_penNow 29 = .ok (.aload_n 0, 1) := by decide +kernel
theorem dX8_penNow_30 : decode cX8_penNow 30 = .ok (.getfield 117, 3) := by decide +kernel
theorem dX8_penNow_33 : decode cX8_penNow 33 = .ok (.imul, 1) := by decide +kernel
theorem dX8_penNow_34 : decode cX8_penNow 34 = .ok (.iadd, 1) := by decide +kernel
theorem dX8_penNow_35 : decode cX8_penNow 35 = .ok (.ireturn, 1) := by decide +kernel
theorem dX8_setPen_0 : decode cX8_setPen 0 = .ok (.aload_n 0, 1) := by decide +kernel
theorem dX8_setPen_1 : decode cX8_setPen 1 = .ok (.iload_n 1, 1) := by decide +kernel
theorem dX8_setPen_2 : decode cX8_setPen 2 = .ok (.iconst 1, 1) := by decide +kernel
theorem dX8_setPen_3 : decode cX8_setPen 3 = .ok (.iand, 1) := by decide +kernel
theorem dX8_setPen_4 : decode cX8_setPen 4 = .ok (.putfield 105, 3) := by decide +kernel
theorem dX8_setPen_7 : decode cX8_setPen 7 = .ok (.aload_n 0, 1) := by decide +kernel
theorem dX8_setPen_8 : decode cX8_setPen 8 = .ok (.iload_n 1, 1) := by decide +kernel
theorem dX8_setPen_9 : decode cX8_setPen 9 = .ok (.iconst 1, 1) := by decide +kernel
theorem dX8_setPen_10 : decode cX8_setPen 10 = .ok (.ishr, 1) := by decide +kernel
theorem dX8_setPen_11 : decode cX8_setPen 11 = .ok (.iconst 1, 1) := by decide +kernel
theorem dX8_setPen_12 : decode cX8_setPen 12 = .ok (.iand, 1) := by decide +kernel
theorem dX8_setPen_13 : decode cX8_setPen 13 = .ok (.putfield 108, 3) := by decide +kernel
theorem dX8_setPen_16 : decode cX8_setPen 16 = .ok (.aload_n 0, 1) := by decide +kernel
theorem dX8_setPen_17 : decode cX8_setPen 17 = .ok (.iload_n 1, 1) := by decide +kernel
theorem dX8_setPen_18 : decode cX8_setPen 18 = .ok (.iconst 2, 1) := by decide +kernel
theorem dX8_setPen_19 : decode cX8_setPen 19 = .ok (.ishr, 1) := by decide +kernel
theorem dX8_setPen_20 : decode cX8_setPen 20 = .ok (.iconst 1, 1) := by decide +kernel
theorem dX8_setPen_21 : decode cX8_setPen 21 = .ok (.iand, 1) := by decide +kernel
theorem dX8_setPen_22 : decode cX8_setPen 22 = .ok (.putfield 111, 3) := by decide +kernel
theorem dX8_setPen_25 : decode cX8_setPen 25 = .ok (.aload_n 0, 1) := by decide +kernel
theorem dX8_setPen_26 : decode cX8_setPen 26 = .ok (.iload_n 1, 1) := by decide +kernel
theorem dX8_setPen_27 : decode cX8_setPen 27 = .ok (.iconst 3, 1) := by decide +kernel
theorem dX8_setPen_28 : decode cX8_setPen 28 = .ok (.ishr, 1) := by decide +kernel
theorem dX8_setPen_29 : decode cX8_setPen 29 = .ok (.bipush 15, 2) := by decide +kernel
theorem dX8_setPen_31 : decode cX8_setPen 31 = .ok (.iand, 1) := by decide +kernel
theorem dX8_setPen_32 : decode cX8_setPen 32 = .ok (.putfield 114, 3) := by decide +kernel
theorem dX8_setPen_35 : decode cX8_setPen 35 = .ok (.aload_n 0, 1) := by decide +kernel
theorem dX8_setPen_36 : decode cX8_setPen 36 = .ok (.iload_n 1, 1) := by decide +kernel
theorem dX8_setPen_37 : decode cX8_setPen 37 = .ok (.bipush 7, 2) := by decide +kernel
theorem dX8_setPen_39 : decode cX8_setPen 39 = .ok (.ishr, 1) := by decide +kernel
theorem dX8_setPen_40 : decode cX8_setPen 40 = .ok (.putfield 117, 3) := by decide +kernel
theorem dX8_setPen_43 : decode cX8_setPen 43 = .ok (.return_, 1) := by decide +kernel
theorem dX8_save_0 : decode cX8_save 0 = .ok (.aload_n 0, 1) := by decide +kernel
theorem dX8_save_1 : decode cX8_save 1 = .ok (.aload_n 0, 1) := by decide +kernel
theorem dX8_save_2 : decode cX8_save 2 = .ok (.getfield 96, 3) := by decide +kernel
theorem dX8_save_5 : decode cX8_save 5 = .ok (.putfield 120, 3) := by decide +kernel
theorem dX8_save_8 : decode cX8_save 8 = .ok (.aload_n 0, 1) := by decide +kernel
theorem dX8_save_9 : decode cX8_save 9 = .ok (.aload_n 0, 1) := by decide +kernel
theorem dX8_save_10 : decode cX8_save 10 = .ok (.getfield 99, 3) := by decide +kernel
theorem dX8_save_13 : decode cX8_save 13 = .ok (.putfield 123, 3) := by decide +kernel
theorem dX8_save_16 : decode cX8_save 16 = .ok (.aload_n 0, 1) := by decide +kernel
theorem dX8_save_17 : decode cX8_save 17 = .ok (.aload_n 0, 1) := by decide +kernel
theorem dX8_save_18 : decode cX8_save 18 = .ok (.getfield 102, 3) := by decide +kernel
theorem dX8_save_21 : decode cX8_save 21 = .ok (.putfield 126, 3) := by decide +kernel
theorem dX8_save_24 : decode cX8_save 24 = .ok (.aload_n 0, 1) := by decide +kernel
theorem dX8_save_25 : decode cX8_save 25 = .ok (.aload_n 0, 1) := by decide +kernel
theorem dX8_save_26 : decode cX8_save 26 = .ok (.invokevirtual 129, 3) := by decide +kernel
theorem dX8_save_29 : decode cX8_save 29 = .ok (.putfield 133, 3) := by decide +kernel
theorem dX8_save_32 : decode cX8_save 32 = .ok (.aload_n 0, 1) := by decide +kernel
theorem dX8_save_33 : decode cX8_save 33 = .ok (.aload_n 0, 1) := by decide +kernel
theorem dX8_save_34 : decode cX8_save 34 = .ok (.getfield 69, 3) := by decide +kernel
theorem dX8_save_37 : decode cX8_save 37 = .ok (.putfield 136, 3) := by decide +kernel
theorem dX8_save_40 : decode cX8_save 40 = .ok (.return_, 1) := by decide +kernel
theorem dX8_bring_0 : decode cX8_bring 0 = .ok (.aload_n 0, 1) := by decide +kernel
theorem dX8_bring_1 : decode cX8_bring 1 = .ok (.aload_n 0, 1) := by decide +kernel
theorem dX8_bring_2 : decode cX8_bring 2 = .ok (.getfield 120, 3) := by decide +kernel
theorem dX8_bring_5 : decode cX8_bring 5 = .ok (.aload_n 0, 1) := by decide +kernel
theorem dX8_bring_6 : decode cX8_bring 6 = .ok (.getfield 123, 3) := by decide +kernel
theorem dX8_bring_9 : decode cX8_bring 9 = .ok (.invokevirtual 52, 3) := by decide +kernel
theorem dX8_bring_12 : decode cX8_bring 12 = .ok (.aload_n 0, 1) := by decide +kernel
theorem dX8_bring_13 : decode cX8_bring 13 = .ok (.aload_n 0, 1) := by decide +kernel
theorem dX8_bring_14 : decode cX8_bring 14 = .ok (.getfield 126, 3) := by decide +kernel
theorem dX8_bring_17 : decode cX8_bring 17 = .ok (.putfield 102, 3) := by decide +kernel
theorem dX8_bring_20 : decode cX8_bring 20 = .ok (.aload_n 0, 1) := by decide +kernel
theorem dX8_bring_21 : decode cX8_bring 21 = .ok (.aload_n 0, 1) := by decide +kernel
theorem dX8_bring_22 : decode cX8_bring 22 = .ok (.getfield 133, 3) := by decide +kernel
theorem dX8_bring_25 : decode cX8_bring 25 = .ok (.invokevirtual 56, 3) := by decide +kernel
theorem dX8_bring_28 : decode cX8_bring 28 = .ok (.aload_n 0, 1) := by decide +kernel
theorem dX8_bring_29 : decode cX8_bring 29 = .ok (.aload_n 0, 1) := by decide +kernel
theorem dX8_bring_30 : decode cX8_bring 30 = .ok (.getfield 136, 3) := by decide +kernel
theorem dX8_bring_33 : decode cX8_bring 33 = .ok (.putfield 69, 3) := by decide +kernel
theorem dX8_bring_36 : decode cX8_bring 36 = .ok (.return_, 1) := by decide +kernel
theorem dX8_remember_0 : decode cX8_remember 0 = .ok (.iconst 0, 1) := by decide +kernel
theorem dX8_remember_1 : decode cX8_remember 1 = .ok (.istore_n 1, 1) := by decide +kernel
theorem dX8_remember_2 : decode cX8_remember 2 = .ok (.iload_n 1, 1) := by decide +kernel
theorem dX8_remember_3 : decode cX8_remember 3 = .ok (.bipush 96, 2) := by decide +kernel
theorem dX8_remember_5 : decode cX8_remember 5 = .ok (.if_icmp .ge 49, 3) := by decide +kernel
theorem dX8_remember_8 : decode cX8_remember 8 = .ok (.aload_n 0, 1) := by decide +kernel
theorem dX8_remember_9 : decode cX8_remember 9 = .ok (.getfield 16, 3) := by decide +kernel
theorem dX8_remember_12 : decode cX8_remember 12 = .ok (.iload_n 1, 1) := by decide +kernel
theorem dX8_remember_13 : decode cX8_remember 13 = .ok (.aload_n 0, 1) := by decide +kernel
theorem dX8_remember_14 : decode cX8_remember 14 = .ok (.getfield 7, 3) := by decide +kernel
theorem dX8_remember_17 : decode cX8_remember 17 = .ok (.bipush 96, 2) := by decide +kernel
theorem dX8_remember_19 : decode cX8_remember 19 = .ok (.aload_n 0, 1) := by decide +kernel
theorem dX8_remember_20 : decode cX8_remember 20 = .ok (.getfield 49, 3) := by decide +kernel
theorem dX8_remember_23 : decode cX8_remember 23 = .ok (.imul, 1) := by decide +kernel
theorem dX8_remember_24 : decode cX8_remember 24 = .ok (.iload_n 1, 1) := by decide +kernel
theorem dX8_remember_25 : decode cX8_remember 25 = .ok (.iadd, 1) := by decide +kernel
theorem dX8_remember_26 : decode cX8_remember 26 = .ok (.iaload, 1) := by decide +kernel
theorem dX8_remember_27 : decode cX8_remember 27 = .ok (.iastore, 1) := by decide +kernel
theorem dX8_remember_28 : decode cX8_remember 28 = .ok (.aload_n 0, 1) := by decide +kernel
theorem dX8_remember_29 : decode cX8_remember 29 = .ok (.getfield 19, 3) := by decide +kernel
theorem dX8_remember_32 : decode cX8_remember 32 = .ok (.iload_n 1, 1) := by decide +kernel
theorem dX8_remember_33 : decode cX8_remember 33 = .ok (.aload_n 0, 1) := by decide +kernel
theorem dX8_remember_34 : decode cX8_remember 34 = .ok (.getfield 13, 3) := by decide +kernel
theorem dX8_remember_37 : decode cX8_remember 37 = .ok (.bipush 96, 2) := by decide +kernel
theorem dX8_remember_39 : decode cX8_remember 39 = .ok (.aload_n 0, 1) := by decide +kernel
theorem dX8_remember_40 : decode cX8_remember 40 = .ok (.getfield 49, 3) := by decide +kernel
theorem dX8_remember_43 : decode cX8_remember 43 = .ok (.imul, 1) := by decide +kernel
theorem dX8_remember_44 : decode cX8_remember 44 = .ok (.iload_n 1, 1) := by decide +kernel
theorem dX8_remember_45 : decode cX8_remember 45 = .ok (.iadd, 1) := by decide +kernel
theorem dX8_remember_46 : decode cX8_remember 46 = .ok (.iaload, 1) := by decide +kernel
theorem dX8_remember_47 : decode cX8_remember 47 = .ok (.iastore, 1) := by decide +kernel
theorem dX8_remember_48 : decode cX8_remember 48 = .ok (.iinc 1 1, 3) := by decide +kernel
theorem dX8_remember_51 : decode cX8_remember 51 = .ok (.goto (-49), 3) := by decide +kernel
theorem dX8_remember_54 : decode cX8_remember 54 = .ok (.return_, 1) := by decide +kernel
theorem dX8_recall_0 : decode cX8_recall 0 = .ok (.bipush 96, 2) := by decide +kernel
theorem dX8_recall_2 : decode cX8_recall 2 = .ok (.aload_n 0, 1) := by decide +kernel
theorem dX8_recall_3 : decode cX8_recall 3 = .ok (.getfield 49, 3) := by decide +kernel
theorem dX8_recall_6 : decode cX8_recall 6 = .ok (.imul, 1) := by decide +kernel
theorem dX8_recall_7 : decode cX8_recall 7 = .ok (.iload_n 1, 1) := by decide +kernel
theorem dX8_recall_8 : decode cX8_recall 8 = .ok (.iadd, 1) := by decide +kernel
theorem dX8_recall_9 : decode cX8_recall 9 = .ok (.istore_n 3, 1) := by decide +kernel
theorem dX8_recall_10 : decode cX8_recall 10 = .ok (.aload_n 0, 1) := by decide +kernel
theorem dX8_recall_11 : decode cX8_recall 11 = .ok (.getfield 7, 3) := by decide +kernel
theorem dX8_recall_14 : decode cX8_recall 14 = .ok (.iload_n 3, 1) := by decide +kernel
theorem dX8_recall_15 : decode cX8_recall 15 = .ok (.iload_n 2, 1) := by decide +kernel
theorem dX8_recall_16 : decode cX8_recall 16 = .ok (.ifCond .ge 8, 3) := by decide +kernel
theorem dX8_recall_19 : decode cX8_recall 19 = .ok (.bipush 32, 2) := by decide +kernel
theorem dX8_recall_21 : decode cX8_recall 21 = .ok (.goto 9, 3) := by decide +kernel
theorem dX8_recall_24 : decode cX8_recall 24 = .ok (.aload_n 0, 1) := by decide +kernel
theorem dX8_recall_25 : decode cX8_recall 25 = .ok (.getfield 16, 3) := by decide +kernel
theorem dX8_recall_28 : decode cX8_recall 28 = .ok (.iload_n 2, 1) := by decide +kernel
theorem dX8_recall_29 : decode cX8_recall 29 = .ok (.iaload, 1) := by decide +kernel
theorem dX8_recall_30 : decode cX8_recall 30 = .ok (.iastore, 1) := by decide +kernel
theorem dX8_recall_31 : decode cX8_recall 31 = .ok (.aload_n 0, 1) := by decide +kernel
theorem dX8_recall_32 : decode cX8_recall 32 = .ok (.getfield 13, 3) := by decide +kernel
theorem dX8_recall_35 : decode cX8_recall 35 = .ok (.iload_n 3, 1) := by decide +kernel
theorem dX8_recall_36 : decode cX8_recall 36 = .ok (.iload_n 2, 1) := by decide +kernel
theorem dX8_recall_37 : decode cX8_recall 37 = .ok (.ifCond .ge 7, 3) := by decide +kernel
theorem dX8_recall_40 : decode cX8_recall 40 = .ok (.iconst 0, 1) := by decide +kernel
theorem dX8_recall_41 : decode cX8_recall 41 = .ok (.goto 9, 3) := by decide +kernel
theorem dX8_recall_44 : decode cX8_recall 44 = .ok (.aload_n 0, 1) := by decide +kernel
theorem dX8_recall_45 : decode cX8_recall 45 = .ok (.getfield 19, 3) := by decide +kernel
theorem dX8_recall_48 : decode cX8_recall 48 = .ok (.iload_n 2, 1) := by decide +kernel
theorem dX8_recall_49 : decode cX8_recall 49 = .ok (.iaload, 1) := by decide +kernel
theorem dX8_recall_50 : decode cX8_recall 50 = .ok (.iastore, 1) := by decide +kernel
theorem dX8_recall_51 : decode cX8_recall 51 = .ok (.return_, 1) := by decide +kernel
theorem dX8_shiftRows_0 : decode cX8_shiftRows 0 = .ok (.aload_n 0, 1) := by decide +kernel
theorem dX8_shiftRows_1 : decode cX8_shiftRows 1 = .ok (.invokevirtual 139, 3) := by decide +kernel
theorem dX8_shiftRows_4 : decode cX8_shiftRows 4 = .ok (.iload_n 1, 1) := by decide +kernel
theorem dX8_shiftRows_5 : decode cX8_shiftRows 5 = .ok (.istore_n 3, 1) := by decide +kernel
theorem dX8_shiftRows_6 : decode cX8_shiftRows 6 = .ok (.iload_n 3, 1) := by decide +kernel
theorem dX8_shiftRows_7 : decode cX8_shiftRows 7 = .ok (.aload_n 0, 1) := by decide +kernel
theorem dX8_shiftRows_8 : decode cX8_shiftRows 8 = .ok (.getfield 62, 3) := by decide +kernel
theorem dX8_shiftRows_11 : decode cX8_shiftRows 11 = .ok (.if_icmp .gt 68, 3) := by decide +kernel
theorem dX8_shiftRows_14 : decode cX8_shiftRows 14 = .ok (.iload_n 3, 1) := by decide +kernel
theorem dX8_shiftRows_15 : decode cX8_shiftRows 15 = .ok (.iload_n 2, 1) := by decide +kernel
theorem dX8_shiftRows_16 : decode cX8_shiftRows 16 = .ok (.iadd, 1) := by decide +kernel
theorem dX8_shiftRows_17 : decode cX8_shiftRows 17 = .ok (.istore 4, 2) := by decide +kernel
theorem dX8_shiftRows_19 : decode cX8_shiftRows 19 = .ok (.iconst 0, 1) := by decide +kernel
theorem dX8_shiftRows_20 : decode cX8_shiftRows 20 = .ok (.istore 5, 2) := by decide +kernel
theorem dX8_shiftRows_22 : decode cX8_shiftRows 22 = .ok (.iload 5, 2) := by decide +kernel
theorem dX8_shiftRows_24 : decode cX8_shiftRows 24 = .ok (.bipush 12, 2) := by decide +kernel
theorem dX8_shiftRows_26 : decode cX8_shiftRows 26 = .ok (.if_icmp .ge 47, 3) := by decide +kernel
theorem dX8_shiftRows_29 : decode cX8_shiftRows 29 = .ok (.aload_n 0, 1) := by decide +kernel
theorem dX8_shiftRows_30 : decode cX8_shiftRows 30 = .ok (.bipush 12, 2) := by decide +kernel
theorem dX8_shiftRows_32 : decode cX8_shiftRows 32 = .ok (.iload_n 3, 1) := by decide +kernel
theorem dX8_shiftRows_33 : decode cX8_shiftRows 33 = .ok (.imul, 1) := by decide +kernel
theorem dX8_shiftRows_34 : decode cX8_shiftRows 34 = .ok (.iload 5, 2) := by decide +kernel
theorem dX8_shiftRows_36 : decode cX8_shiftRows 36 = .ok (.iadd, 1) := by decide +kernel
theorem dX8_shiftRows_37 : decode cX8_shiftRows 37 = .ok (.iload 4, 2) := by decide +kernel
theorem dX8_shiftRows_39 : decode cX8_shiftRows 39 = .ok (.iload_n 1, 1) := by decide +kernel
theorem dX8_shiftRows_40 : decode cX8_shiftRows 40 = .ok (.if_icmp .lt 12, 3) := by decide +kernel
theorem dX8_shiftRows_43 : decode cX8_shiftRows 43 = .ok (.iload 4, 2) := by decide +kernel
theorem dX8_shiftRows_45 : decode cX8_shiftRows 45 = .ok (.aload_n 0, 1) := by decide +kernel
theorem dX8_shiftRows_46 : decode cX8_shiftRows 46 = .ok (.getfield 62, 3) := by decide +kernel
theorem dX8_shiftRows_49 : decode cX8_shiftRows 49 = .ok (.if_icmp .le 7, 3) := by decide +kernel
theorem dX8_shiftRows_52 : decode cX8_shiftRows 52 = .ok (.iconst (-1), 1) := by decide +kernel
theorem dX8_shiftRows_53 : decode cX8_shiftRows 53 = .ok (.goto 11, 3) := by decide +kernel
theorem dX8_shiftRows_56 : decode cX8_shiftRows 56 = .ok (.bipush 12, 2) := by decide +kernel
theorem dX8_shiftRows_58 : decode cX8_shiftRows 58 = .ok (.iload 4, 2) := by decide +kernel
theorem dX8_shiftRows_60 : decode cX8_shiftRows 60 = .ok (.imul, 1) := by decide +kernel
theorem dX8_shiftRows_61 : decode cX8_shiftRows 61 = .ok (.iload 5, 2) := by decide +kernel
theorem dX8_shiftRows_63 : decode cX8_shiftRows 63 = .ok (.iadd, 1) := by decide +kernel
theorem dX8_shiftRows_64 : decode cX8_shiftRows 64 = .ok (.invokevirtual 142, 3) := by decide +kernel
theorem dX8_shiftRows_67 : decode cX8_shiftRows 67 = .ok (.iinc 5 1, 3) := by decide +kernel
theorem dX8_shiftRows_70 : decode cX8_shiftRows 70 = .ok (.goto (-48), 3) := by decide +kernel
theorem dX8_shiftRows_73 : decode cX8_shiftRows 73 = .ok (.iinc 3 1, 3) := by decide +kernel
theorem dX8_shiftRows_76 : decode cX8_shiftRows 76 = .ok (.goto (-70), 3) := by decide +kernel
theorem dX8_shiftRows_79 : decode cX8_shiftRows 79 = .ok (.return_, 1) := by decide +kernel
theorem dX8_shiftCells_0 : decode cX8_shiftCells 0 = .ok (.aload_n 0, 1) := by decide +kernel
theorem dX8_shiftCells_1 : decode cX8_shiftCells 1 = .ok (.invokevirtual 139, 3) := by decide +kernel
theorem dX8_shiftCells_4 : decode cX8_shiftCells 4 = .ok (.aload_n 0, 1) := by decide +kernel
theorem dX8_shiftCells_5 : decode cX8_shiftCells 5 = .ok (.getfield 99, 3) := by decide +kernel
theorem dX8_shiftCells_8 : decode cX8_shiftCells 8 = .ok (.istore_n 2, 1) := by decide +kernel
theorem dX8_shiftCells_9 : decode cX8_shiftCells 9 = .ok (.iload_n 2, 1) := by decide +kernel
theorem dX8_shiftCells_10 : decode cX8_shiftCells 10 = .ok (.bipush 12, 2) := by decide +kernel
theorem dX8_shiftCells_12 : decode cX8_shiftCells 12 = .ok (.if_icmp .ge 53, 3) := by decide +kernel
theorem dX8_shiftCells_15 : decode cX8_shiftCells 15 = .ok (.iload_n 2, 1) := by decide +kernel
theorem dX8_shiftCells_16 : decode cX8_shiftCells 16 = .ok (.iload_n 1, 1) := by decide +kernel
theorem dX8_shiftCells_17 : decode cX8_shiftCells 17 = .ok (.iadd, 1) := by decide +kernel
theorem dX8_shiftCells_18 : decode cX8_shiftCells 18 = .ok (.istore_n 3, 1) := by decide +kernel
theorem dX8_shiftCells_19 : decode cX8_shiftCells 19 = .ok (.aload_n 0, 1) := by decide +kernel
theorem dX8_shiftCells_20 : decode cX8_shiftCells 20 = .ok (.bipush 12, 2) := by decide +kernel
theorem dX8_shiftCells_22 : decode cX8_shiftCells 22 = .ok (.aload_n 0, 1) := by decide +kernel
theorem dX8_shiftCells_23 : decode cX8_shiftCells 23 = .ok (.getfield 96, 3) := by decide +kernel
theorem dX8_shiftCells_26 : decode cX8_shiftCells 26 = .ok (.imul, 1) := by decide +kernel
theorem dX8_shiftCells_27 : decode cX8_shiftCells 27 = .ok (.iload_n 2, 1) := by decide +kernel
theorem dX8_shiftCells_28 : decode cX8_shiftCells 28 = .ok (.iadd, 1) := by decide +kernel
theorem dX8_shiftCells_29 : decode cX8_shiftCells 29 = .ok (.iload_n 3, 1) := by decide +kernel
theorem dX8_shiftCells_30 : decode cX8_shiftCells 30 = .ok (.aload_n 0, 1) := by decide +kernel
theorem dX8_shiftCells_31 : decode cX8_shiftCells 31 = .ok (.getfield 99, 3) := by decide +kernel
theorem dX8_shiftCells_34 : decode cX8_shiftCells 34 = .ok (.if_icmp .lt 9, 3) := by decide +kernel
theorem dX8_shiftCells_37 : decode cX8_shiftCells 37 = .ok (.iload_n 3, 1) := by decide +kernel
theorem dX8_shiftCells_38 : decode cX8_shiftCells 38 = .ok (.bipush 12, 2) := by decide +kernel
theorem dX8_shiftCells_40 : decode cX8_shiftCells 40 = .ok (.if_icmp .lt 7, 3) := by decide +kernel
theorem dX8_shiftCells_43 : decode cX8_shiftCells 43 = .ok (.iconst (-1), 1) := by decide +kernel
theorem dX8_shiftCells_44 : decode cX8_shiftCells 44 = .ok (.goto 12, 3) := by decide +kernel
theorem dX8_shiftCells_47 : decode cX8_shiftCells 47 = .ok (.bipush 12, 2) := by decide +kernel
theorem dX8_shiftCells_49 : decode cX8_shiftCells 49 = .ok (.aload_n 0, 1) := by decide +kernel
theorem dX8_shiftCells_50 : decode cX8_shiftCells 50 = .ok (.getfield 96, 3) := by decide +kernel
theorem dX8_shiftCells_53 : decode cX8_shiftCells 53 = .ok (.imul, 1) := by decide +kernel
theorem dX8_shiftCells_54 : decode cX8_shiftCells 54 = .ok (.iload_n 3, 1) := by decide +kernel
theorem dX8_shiftCells_55 : decode cX8_shiftCells 55 = .ok (.iadd, 1) := by decide +kernel
theorem dX8_shiftCells_56 : decode cX8_shiftCells 56 = .ok (.invokevirtual 142, 3) := by decide +kernel
theorem dX8_shiftCells_59 : decode cX8_shiftCells 59 = .ok (.iinc 2 1, 3) := by decide +kernel
theorem dX8_shiftCells_62 : decode cX8_shiftCells 62 = .ok (.goto (-53), 3) := by decide +kernel
theorem dX8_shiftCells_65 : decode cX8_shiftCells 65 = .ok (.return_, 1) := by decide +kernel
theorem dX8_clear_0 : decode cX8_clear 0 = .ok (.iload_n 1, 1) := by decide +kernel
theorem dX8_clear_1 : decode cX8_clear 1 = .ok (.istore_n 3, 1) := by decide +kernel
theorem dX8_clear_2 : decode cX8_clear 2 = .ok (.iload_n 3, 1) := by decide +kernel
theorem dX8_clear_3 : decode cX8_clear 3 = .ok (.iload_n 2, 1) := by decide +kernel
theorem dX8_clear_4 : decode cX8_clear 4 = .ok (.if_icmp .gt 22, 3) := by decide +kernel
theorem dX8_clear_7 : decode cX8_clear 7 = .ok (.aload_n 0, 1) := by decide +kernel
theorem dX8_clear_8 : decode cX8_clear 8 = .ok (.bipush 96, 2) := by decide +kernel
theorem dX8_clear_10 : decode cX8_clear 10 = .ok (.aload_n 0, 1) := by decide +kernel
theorem dX8_clear_11 : decode cX8_clear 11 = .ok (.getfield 49, 3) := by decide +kernel
theorem dX8_clear_14 : decode cX8_clear 14 = .ok (.imul, 1) := by decide +kernel
theorem dX8_clear_15 : decode cX8_clear 15 = .ok (.iload_n 3, 1) := by decide +kernel
theorem dX8_clear_16 : decode cX8_clear 16 = .ok (.iadd, 1) := by decide +kernel
theorem dX8_clear_17 : decode cX8_clear 17 = .ok (.invokevirtual 45, 3) := by decide +kernel
theorem dX8_clear_20 : decode cX8_clear 20 = .ok (.iinc 3 1, 3) := by decide +kernel
theorem dX8_clear_23 : decode cX8_clear 23 = .ok (.goto (-21), 3) := by decide +kernel
theorem dX8_clear_26 : decode cX8_clear 26 = .ok (.return_, 1) := by decide +kernel
theorem dX8_feeding_0 : decode cX8_feeding 0 = .ok (.aload_n 0, 1) := by decide +kernel
theorem dX8_feeding_1 : decode cX8_feeding 1 = .ok (.getfield 96, 3) := by decide +kernel
theorem dX8_feeding_4 : decode cX8_feeding 4 = .ok (.aload_n 0, 1) := by decide +kernel
theorem dX8_feeding_5 : decode cX8_feeding 5 = .ok (.getfield 62, 3) := by decide +kernel
theorem dX8_feeding_8 : decode cX8_feeding 8 = .ok (.if_icmp .ne 15, 3) := by decide +kernel
theorem dX8_feeding_11 : decode cX8_feeding 11 = .ok (.aload_n 0, 1) := by decide +kernel
theorem dX8_feeding_12 : decode cX8_feeding 12 = .ok (.aload_n 0, 1) := by decide +kernel
theorem dX8_feeding_13 : decode cX8_feeding 13 = .ok (.getfield 59, 3) := by decide +kernel
theorem dX8_feeding_16 : decode cX8_feeding 16 = .ok (.iconst 1, 1) := by decide +kernel
theorem dX8_feeding_17 : decode cX8_feeding 17 = .ok (.invokevirtual 145, 3) := by decide +kernel
theorem dX8_feeding_20 : decode cX8_feeding 20 = .ok (.goto 22, 3) := by decide +kernel
theorem dX8_feeding_23 : decode cX8_feeding 23 = .ok (.aload_n 0, 1) := by decide +kernel
theorem dX8_feeding_24 : decode cX8_feeding 24 = .ok (.getfield 96, 3) := by decide +kernel
theorem dX8_feeding_27 : decode cX8_feeding 27 = .ok (.bipush 7, 2) := by decide +kernel
theorem dX8_feeding_29 : decode cX8_feeding 29 = .ok (.if_icmp .ge 13, 3) := by decide +kernel
theorem dX8_feeding_32 : decode cX8_feeding 32 = .ok (.aload_n 0, 1) := by decide +kernel
theorem dX8_feeding_33 : decode cX8_feeding 33 = .ok (.aload_n 0, 1) := by decide +kernel
theorem dX8_feeding_34 : decode cX8_feeding 34 = .ok (.getfield 96, 3) := by decide +kernel
theorem dX8_feeding_37 : decode cX8_feeding 37 = .ok (.iconst 1, 1) := by decide +kernel
theorem dX8_feeding_38 : decode cX8_feeding 38 = .ok (.iadd, 1) := by decide +kernel
theorem dX8_feeding_39 : decode cX8_feeding 39 = .ok (.putfield 96, 3) := by decide +kernel
theorem dX8_feeding_42 : decode cX8_feeding 42 = .ok (.aload_n 0, 1) := by decide +kernel
theorem dX8_feeding_43 : decode cX8_feeding 43 = .ok (.iconst 0, 1) := by decide +kernel
theorem dX8_feeding_44 : decode cX8_feeding 44 = .ok (.putfield 102, 3) := by decide +kernel
theorem dX8_feeding_47 : decode cX8_feeding 47 = .ok (.return_, 1) := by decide +kernel
theorem dX8_backing_0 : decode cX8_backing 0 = .ok (.aload_n 0, 1) := by decide +kernel
theorem dX8_backing_1 : decode cX8_backing 1 = .ok (.getfield 96, 3) := by decide +kernel
theorem dX8_backing_4 : decode cX8_backing 4 = .ok (.aload_n 0, 1) := by decide +kernel
theorem dX8_backing_5 : decode cX8_backing 5 = .ok (.getfield 59, 3) := by decide +kernel
theorem dX8_backing_8 : decode cX8_backing 8 = .ok (.if_icmp .ne 15, 3) := by decide +kernel
theorem dX8_backing_11 : decode cX8_backing 11 = .ok (.aload_n 0, 1) := by decide +kernel
theorem dX8_backing_12 : decode cX8_backing 12 = .ok (.aload_n 0, 1) := by decide +kernel
theorem dX8_backing_13 : decode cX8_backing 13 = .ok (.getfield 59, 3) := by decide +kernel
theorem dX8_backing_16 : decode cX8_backing 16 = .ok (.iconst (-1), 1) := by decide +kernel
theorem dX8_backing_17 : decode cX8_backing 17 = .ok (.invokevirtual 145, 3) := by decide +kernel
theorem dX8_backing_20 : decode cX8_backing 20 = .ok (.goto 20, 3) := by decide +kernel
theorem dX8_backing_23 : decode cX8_backing 23 = .ok (.aload_n 0, 1) := by decide +kernel
theorem dX8_backing_24 : decode cX8_backing 24 = .ok (.getfield 96, 3) := by decide +kernel
theorem dX8_backing_27 : decode cX8_backing 27 = .ok (.ifCond .le 13, 3) := by decide +kernel
theorem dX8_backing_30 : decode cX8_backing 30 = .ok (.aload_n 0, 1) := by decide +kernel
theorem dX8_backing_31 : decode cX8_backing 31 = .ok (.aload_n 0, 1) := by decide +kernel
theorem dX8_backing_32 : decode cX8_backing 32 = .ok (.getfield 96, 3) := by decide +kernel
theorem dX8_backing_35 : decode cX8_backing 35 = .ok (.iconst 1, 1) := by decide +kernel
theorem dX8_backing_36 : decode cX8_backing 36 = .ok (.isub, 1) := by decide +kernel
theorem dX8_backing_37 : decode cX8_backing 37 = .ok (.putfield 96, 3) := by decide +kernel
theorem dX8_backing_40 : decode cX8_backing 40 = .ok (.aload_n 0, 1) := by decide +kernel
theorem dX8_backing_41 : decode cX8_backing 41 = .ok (.iconst 0, 1) := by decide +kernel
theorem dX8_backing_42 : decode cX8_backing 42 = .ok (.putfield 102, 3) := by decide +kernel
theorem dX8_backing_45 : decode cX8_backing 45 = .ok (.return_, 1) := by decide +kernel
theorem dX8_print_0 : decode cX8_print 0 = .ok (.aload_n 0, 1) := by decide +kernel
theorem dX8_print_1 : decode cX8_print 1 = .ok (.getfield 102, 3) := by decide +kernel
theorem dX8_print_4 : decode cX8_print 4 = .ok (.ifCond .eq 12, 3) := by decide +kernel
theorem dX8_print_7 : decode cX8_print 7 = .ok (.aload_n 0, 1) := by decide +kernel
theorem dX8_print_8 : decode cX8_print 8 = .ok (.iconst 0, 1) := by decide +kernel
theorem dX8_print_9 : decode cX8_print 9 = .ok (.putfield 99, 3) := by decide +kernel
theorem dX8_print_12 : decode cX8_print 12 = .ok (.aload_n 0, 1) := by decide +kernel
theorem dX8_print_13 : decode cX8_print 13 = .ok (.invokevirtual 148, 3) := by decide +kernel
theorem dX8_print_16 : decode cX8_print 16 = .ok (.aload_n 0, 1) := by decide +kernel
theorem dX8_print_17 : decode cX8_print 17 = .ok (.getfield 65, 3) := by decide +kernel
theorem dX8_print_20 : decode cX8_print 20 = .ok (.ifCond .eq 8, 3) := by decide +kernel
theorem dX8_print_23 : decode cX8_print 23 = .ok (.aload_n 0, 1) := by decide +kernel
theorem dX8_print_24 : decode cX8_print 24 = .ok (.iconst (-1), 1) := by decide +kernel
theorem dX8_print_25 : decode cX8_print 25 = .ok (.invokevirtual 151, 3) := by decide +kernel
theorem dX8_print_28 : decode cX8_print 28 = .ok (.bipush 96, 2) := by decide +kernel
theorem dX8_print_30 : decode cX8_print 30 = .ok (.aload_n 0, 1) := by decide +kernel
theorem dX8_print_31 : decode cX8_print 31 = .ok (.getfield 49, 3) := by decide +kernel
theorem dX8_print_34 : decode cX8_print 34 = .ok (.imul, 1) := by decide +kernel
theorem dX8_print_35 : decode cX8_print 35 = .ok (.bipush 12, 2) := by decide +kernel
theorem dX8_print_37 : decode cX8_print 37 = .ok (.aload_n 0, 1) := by decide +kernel
theorem dX8_print_38 : decode cX8_print 38 = .ok (.getfield 96, 3) := by decide +kernel
theorem dX8_print_41 : decode cX8_print 41 = .ok (.imul, 1) := by decide +kernel
theorem dX8_print_42 : decode cX8_print 42 = .ok (.iadd, 1) := by decide +kernel
theorem dX8_print_43 : decode cX8_print 43 = .ok (.aload_n 0, 1) := by decide +kernel
theorem dX8_print_44 : decode cX8_print 44 = .ok (.getfield 99, 3) := by decide +kernel
theorem dX8_print_47 : decode cX8_print 47 = .ok (.iadd, 1) := by decide +kernel
theorem dX8_print_48 : decode cX8_print 48 = .ok (.istore_n 2, 1) := by decide +kernel
theorem dX8_print_49 : decode cX8_print 49 = .ok (.aload_n 0, 1) := by decide +kernel
theorem dX8_print_50 : decode cX8_print 50 = .ok (.getfield 7, 3) := by decide +kernel
theorem dX8_print_53 : decode cX8_print 53 = .ok (.iload_n 2, 1) := by decide +kernel
theorem dX8_print_54 : decode cX8_print 54 = .ok (.iload_n 1, 1) := by decide +kernel
theorem dX8_print_55 : decode cX8_print 55 = .ok (.iastore, 1) := by decide +kernel
theorem dX8_print_56 : decode cX8_print 56 = .ok (.aload_n 0, 1) := by decide +kernel
theorem dX8_print_57 : decode cX8_print 57 = .ok (.getfield 13, 3) := by decide +kernel
theorem dX8_print_60 : decode cX8_print 60 = .ok (.iload_n 2, 1) := by decide +kernel
theorem dX8_print_61 : decode cX8_print 61 = .ok (.aload_n 0, 1) := by decide +kernel
theorem dX8_print_62 : decode cX8_print 62 = .ok (.invokevirtual 129, 3) := by decide +kernel
theorem dX8_print_65 : decode cX8_print 65 = .ok (.iastore, 1) := by decide +kernel
theorem dX8_print_66 : decode cX8_print 66 = .ok (.aload_n 0, 1) := by decide +kernel
theorem dX8_print_67 : decode cX8_print 67 = .ok (.getfield 99, 3) := by decide +kernel
theorem dX8_print_70 : decode cX8_print 70 = .ok (.bipush 11, 2) := by decide +kernel
theorem dX8_print_72 : decode cX8_print 72 = .ok (.if_icmp .ge 16, 3) := by decide +kernel
theorem dX8_print_75 : decode cX8_print 75 = .ok (.aload_n 0, 1) := by decide +kernel
theorem dX8_print_76 : decode cX8_print 76 = .ok (.aload_n 0, 1) := by decide +kernel
theorem dX8_print_77 : decode cX8_print 77 = .ok (.getfield 99, 3) := by decide +kernel
theorem dX8_print_80 : decode cX8_print 80 = .ok (.iconst 1, 1) := by decide +kernel
theorem dX8_print_81 : decode cX8_print 81 = .ok (.iadd, 1) := by decide +kernel
theorem dX8_print_82 : decode cX8_print 82 = .ok (.putfield 99, 3) := by decide +kernel
theorem dX8_print_85 : decode cX8_print 85 = .ok (.goto 11, 3) := by decide +kernel
theorem dX8_print_88 : decode cX8_print 88 = .ok (.aload_n 0, 1) := by decide +kernel
theorem dX8_print_89 : decode cX8_print 89 = .ok (.aload_n 0, 1) := by decide +kernel
theorem dX8_print_90 : decode cX8_print 90 = .ok (.getfield 72, 3) := by decide +kernel
theorem dX8_print_93 : decode cX8_print 93 = .ok (.putfield 102, 3) := by decide +kernel
theorem dX8_print_96 : decode cX8_print 96 = .ok (.aload_n 0, 1) := by decide +kernel
theorem dX8_print_97 : decode cX8_print 97 = .ok (.iload_n 1, 1) := by decide +kernel
theorem dX8_print_98 : decode cX8_print 98 = .ok (.putfield 78, 3) := by decide +kernel
theorem dX8_print_101 : decode cX8_print 101 = .ok (.return_, 1) := by decide +kernel
theorem dX8_feed_0 : decode cX8_feed 0 = .ok (.aload_n 0, 1) := by decide +kernel
theorem dX8_feed_1 : decode cX8_feed 1 = .ok (.iconst 0, 1) := by decide +kernel
theorem dX8_feed_2 : decode cX8_feed 2 = .ok (.putfield 41, 3) := by decide +kernel
theorem dX8_feed_5 : decode cX8_feed 5 = .ok (.iload_n 1, 1) := by decide +kernel
theorem dX8_feed_6 : decode cX8_feed 6 = .ok (.ifCond .lt 10, 3) := by decide +kernel
theorem dX8_feed_9 : decode cX8_feed 9 = .ok (.iload_n 1, 1) := by decide +kernel
theorem dX8_feed_10 : decode cX8_feed 10 = .ok (.sipush 255, 3) := by decide +kernel
theorem dX8_feed_13 : decode cX8_feed 13 = .ok (.if_icmp .le 5, 3) := by decide +kernel
theorem dX8_feed_16 : decode cX8_feed 16 = .ok (.iconst 0, 1) := by decide +kernel
theorem dX8_feed_17 : decode cX8_feed 17 = .ok (.ireturn, 1) := by decide +kernel
theorem dX8_feed_18 : decode cX8_feed 18 = .ok (.aload_n 0, 1) := by decide +kernel
theorem dX8_feed_19 : decode cX8_feed 19 = .ok (.iload_n 1, 1) := by decide +kernel
theorem dX8_feed_20 : decode cX8_feed 20 = .ok (.invokevirtual 154, 3) := by decide +kernel
theorem dX8_feed_23 : decode cX8_feed 23 = .ok (.iconst 1, 1) := by decide +kernel
theorem dX8_feed_24 : decode cX8_feed 24 = .ok (.ireturn, 1) := by decide +kernel
theorem dX8_feedAll_0 : decode cX8_feedAll 0 = .ok (.aload_n 0, 1) := by decide +kernel
theorem dX8_feedAll_1 : decode cX8_feedAll 1 = .ok (.iconst 0, 1) := by decide +kernel
theorem dX8_feedAll_2 : decode cX8_feedAll 2 = .ok (.putfield 41, 3) := by decide +kernel
theorem dX8_feedAll_5 : decode cX8_feedAll 5 = .ok (.iconst 0, 1) := by decide +kernel
theorem dX8_feedAll_6 : decode cX8_feedAll 6 = .ok (.istore_n 3, 1) := by decide +kernel
theorem dX8_feedAll_7 : decode cX8_feedAll 7 = .ok (.iconst 1, 1) := by decide +kernel
theorem dX8_feedAll_8 : decode cX8_feedAll 8 = .ok (.istore 4, 2) := by decide +kernel
theorem dX8_feedAll_10 : decode cX8_feedAll 10 = .ok (.iconst 0, 1) := by decide +kernel
theorem dX8_feedAll_11 : decode cX8_feedAll 11 = .ok (.istore 5, 2) := by decide +kernel
theorem dX8_feedAll_13 : decode cX8_feedAll 13 = .ok (.iload 5, 2) := by decide +kernel
theorem dX8_feedAll_15 : decode cX8_feedAll 15 = .ok (.bipush 8, 2) := by decide +kernel
theorem dX8_feedAll_17 : decode cX8_feedAll 17 = .ok (.if_icmp .ge 55, 3) := by decide +kernel
theorem dX8_feedAll_20 : decode cX8_feedAll 20 = .ok (.lload_n 1, 1) := by decide +kernel
theorem dX8_feedAll_21 : decode cX8_feedAll 21 = .ok (.bipush 8, 2) := by decide +kernel
theorem dX8_feedAll_23 : decode cX8_feedAll 23 = .ok (.iload 5, 2) := by decide +kernel
theorem dX8_feedAll_25 : decode cX8_feedAll 25 = .ok (.imul, 1) := by decide +kernel
theorem dX8_feedAll_26 : decode cX8_feedAll 26 = .ok (.lshr, 1) := by decide +kernel
theorem dX8_feedAll_27 : decode cX8_feedAll 27 = .ok (.l2i, 1) := by decide +kernel
theorem dX8_feedAll_28 : decode cX8_feedAll 28 = .ok (.sipush 255, 3) := by decide +kernel
theorem dX8_feedAll_31 : decode cX8_feedAll 31 = .ok (.iand, 1) := by decide +kernel
theorem dX8_feedAll_32 : decode cX8_feedAll 32 = .ok (.istore 6, 2) := by decide +kernel
theorem dX8_feedAll_34 : decode cX8_feedAll 34 = .ok (.iload 4, 2) := by decide +kernel
theorem dX8_feedAll_36 : decode cX8_feedAll 36 = .ok (.ifCond .eq 12, 3) := by decide +kernel
theorem dX8_feedAll_39 : decode cX8_feedAll 39 = .ok (.iload 6, 2) := by decide +kernel
theorem dX8_feedAll_41 : decode cX8_feedAll 41 = .ok (.ifCond .eq 7, 3) := by decide +kernel
theorem dX8_feedAll_44 : decode cX8_feedAll 44 = .ok (.iconst 1, 1) := by decide +kernel
theorem dX8_feedAll_45 : decode cX8_feedAll 45 = .ok (.goto 4, 3) := by decide +kernel
theorem dX8_feedAll_48 : decode cX8_feedAll 48 = .ok (.iconst 0, 1) := by decide +kernel
theorem dX8_feedAll_49 : decode cX8_feedAll 49 = .ok (.istore 4, 2) := by decide +kernel
theorem dX8_feedAll_51 : decode cX8_feedAll 51 = .ok (.iload 4, 2) := by decide +kernel
theorem dX8_feedAll_53 : decode cX8_feedAll 53 = .ok (.ifCond .eq 13, 3) := by decide +kernel
theorem dX8_feedAll_56 : decode cX8_feedAll 56 = .ok (.aload_n 0, 1) := by decide +kernel
theorem dX8_feedAll_57 : decode cX8_feedAll 57 = .ok (.iload 6, 2) := by decide +kernel
theorem dX8_feedAll_59 : decode cX8_feedAll 59 = .ok (.invokevirtual 154, 3) := by decide +kernel
theorem dX8_feedAll_62 : decode cX8_feedAll 62 = .ok (.iload_n 3, 1) := by decide +kernel
theorem dX8_feedAll_63 : decode cX8_feedAll 63 = .ok (.iconst 1, 1) := by decide +kernel
theorem dX8_feedAll_64 : decode cX8_feedAll 64 = .ok (.iadd, 1) := by decide +kernel
theorem dX8_feedAll_65 : decode cX8_feedAll 65 = .ok (.istore_n 3, 1) := by decide +kernel
theorem dX8_feedAll_66 : decode cX8_feedAll 66 = .ok (.iinc 5 1, 3) := by decide +kernel
theorem dX8_feedAll_69 : decode cX8_feedAll 69 = .ok (.goto (-56), 3) := by decide +kernel
theorem dX8_feedAll_72 : decode cX8_feedAll 72 = .ok (.iload_n 3, 1) := by decide +kernel
theorem dX8_feedAll_73 : decode cX8_feedAll 73 = .ok (.ireturn, 1) := by decide +kernel
theorem dX8_take_0 : decode cX8_take 0 = .ok (.aload_n 0, 1) := by decide +kernel
theorem dX8_take_1 : decode cX8_take 1 = .ok (.getfield 90, 3) := by decide +kernel
theorem dX8_take_4 : decode cX8_take 4 = .ok (.ifCond .ne 41, 3) := by decide +kernel
theorem dX8_take_7 : decode cX8_take 7 = .ok (.aload_n 0, 1) := by decide +kernel
theorem dX8_take_8 : decode cX8_take 8 = .ok (.getfield 93, 3) := by decide +kernel
theorem dX8_take_11 : decode cX8_take 11 = .ok (.ifCond .le 34, 3) := by decide +kernel
theorem dX8_take_14 : decode cX8_take 14 = .ok (.iload_n 1, 1) := by decide +kernel
theorem dX8_take_15 : decode cX8_take 15 = .ok (.sipush 128, 3) := by decide +kernel
theorem dX8_take_18 : decode cX8_take 18 = .ok (.if_icmp .lt 16, 3) := by decide +kernel
theorem dX8_take_21 : decode cX8_take 21 = .ok (.iload_n 1, 1) := by decide +kernel
theorem dX8_take_22 : decode cX8_take 22 = .ok (.sipush 191, 3) := by decide +kernel
theorem dX8_take_25 : decode cX8_take 25 = .ok (.if_icmp .gt 9, 3) := by decide +kernel
theorem dX8_take_28 : decode cX8_take 28 = .ok (.aload_n 0, 1) := by decide +kernel
theorem dX8_take_29 : decode cX8_take 29 = .ok (.iload_n 1, 1) := by decide +kernel
theorem dX8_take_30 : decode cX8_take 30 = .ok (.invokevirtual 157, 3) := by decide +kernel
theorem dX8_take_33 : decode cX8_take 33 = .ok (.return_, 1) := by decide +kernel
theorem dX8_take_34 : decode cX8_take 34 = .ok (.aload_n 0, 1) := by decide +kernel
theorem dX8_take_35 : decode cX8_take 35 = .ok (.iconst 0, 1) := by decide +kernel
theorem dX8_take_36 : decode cX8_take 36 = .ok (.putfield 93, 3) := by decide +kernel
theorem dX8_take_39 : decode cX8_take 39 = .ok (.aload_n 0, 1) := by decide +kernel
theorem dX8_take_40 : decode cX8_take 40 = .ok (.ldc 160, 2) := by decide +kernel
theorem dX8_take_42 : decode cX8_take 42 = .ok (.invokevirtual 161, 3) := by decide +kernel
theorem dX8_take_45 : decode cX8_take 45 = .ok (.iload_n 1, 1) := by decide +kernel
theorem dX8_take_46 : decode cX8_take 46 = .ok (.bipush 24, 2) := by decide +kernel
theorem dX8_take_48 : decode cX8_take 48 = .ok (.if_icmp .eq 9, 3) := by decide +kernel
theorem dX8_take_51 : decode cX8_take 51 = .ok (.iload_n 1, 1) := by decide +kernel
theorem dX8_take_52 : decode cX8_take 52 = .ok (.bipush 26, 2) := by decide +kernel
theorem dX8_take_54 : decode cX8_take 54 = .ok (.if_icmp .ne 11, 3) := by decide +kernel
theorem dX8_take_57 : decode cX8_take 57 = .ok (.aload_n 0, 1) := by decide +kernel
theorem dX8_take_58 : decode cX8_take 58 = .ok (.iconst 0, 1) := by decide +kernel
theorem dX8_take_59 : decode cX8_take 59 = .ok (.putfield 90, 3) := by decide +kernel
theorem dX8_take_62 : decode cX8_take 62 = .ok (.goto 73, 3) := by decide +kernel
theorem dX8_take_65 : decode cX8_take 65 = .ok (.iload_n 1, 1) := by decide +kernel
theorem dX8_take_66 : decode cX8_take 66 = .ok (.bipush 27, 2) := by decide +kernel
theorem dX8_take_68 : decode cX8_take 68 = .ok (.if_icmp .ne 11, 3) := by decide +kernel
theorem dX8_take_71 : decode cX8_take 71 = .ok (.aload_n 0, 1) := by decide +kernel
theorem dX8_take_72 : decode cX8_take 72 = .ok (.iconst 1, 1) := by decide +kernel
theorem dX8_take_73 : decode cX8_take 73 = .ok (.putfield 90, 3) := by decide +kernel
theorem dX8_take_76 : decode cX8_take 76 = .ok (.goto 59, 3) := by decide +kernel
theorem dX8_take_79 : decode cX8_take 79 = .ok (.iload_n 1, 1) := by decide +kernel
theorem dX8_take_80 : decode cX8_take 80 = .ok (.bipush 127, 2) := by decide +kernel
theorem dX8_take_82 : decode cX8_take 82 = .ok (.if_icmp .ne 4, 3) := by decide +kernel
theorem dX8_take_85 : decode cX8_take 85 = .ok (.return_, 1) := by decide +kernel
theorem dX8_take_86 : decode cX8_take 86 = .ok (.iload_n 1, 1) := by decide +kernel
theorem dX8_take_87 : decode cX8_take 87 = .ok (.bipush 32, 2) := by decide +kernel
theorem dX8_take_89 : decode cX8_take 89 = .ok (.if_icmp .ge 19, 3) := by decide +kernel
theorem dX8_take_92 : decode cX8_take 92 = .ok (.aload_n 0, 1) := by decide +kernel
theorem dX8_take_93 : decode cX8_take 93 = .ok (.getfield 90, 3) := by decide +kernel
theorem dX8_take_96 : decode cX8_take 96 = .ok (.iconst 4, 1) := by decide +kernel
theorem dX8_take_97 : decode cX8_take 97 = .ok (.if_icmp .eq 11, 3) := by decide +kernel
theorem dX8_take_100 : decode cX8_take 100 = .ok (.aload_n 0, 1) := by decide +kernel
theorem dX8_take_101 : decode cX8_take 101 = .ok (.iload_n 1, 1) := by decide +kernel
theorem dX8_take_102 : decode cX8_take 102 = .ok (.invokevirtual 164, 3) := by decide +kernel
theorem dX8_take_105 : decode cX8_take 105 = .ok (.goto 30, 3) := by decide +kernel
theorem dX8_take_108 : decode cX8_take 108 = .ok (.aload_n 0, 1) := by decide +kernel
theorem dX8_take_109 : decode cX8_take 109 = .ok (.getfield 90, 3) := by decide +kernel
theorem dX8_take_112 : decode cX8_take 112 = .ok (.ifCond .ne 11, 3) := by decide +kernel
theorem dX8_take_115 : decode cX8_take 115 = .ok (.aload_n 0, 1) := by decide +kernel
theorem dX8_take_116 : decode cX8_take 116 = .ok (.iload_n 1, 1) := by decide +kernel
theorem dX8_take_117 : decode cX8_take 117 = .ok (.invokevirtual 167, 3) := by decide +kernel
theorem dX8_take_120 : decode cX8_take 120 = .ok (.goto 15, 3) := by decide +kernel
theorem dX8_take_123 : decode cX8_take 123 = .ok (.iload_n 1, 1) := by decide +kernel
theorem dX8_take_124 : decode cX8_take 124 = .ok (.sipush 128, 3) := by decide +kernel
theorem dX8_take_127 : decode cX8_take 127 = .ok (.if_icmp .ge 8, 3) := by decide +kernel
theorem dX8_take_130 : decode cX8_take 130 = .ok (.aload_n 0, 1) := by decide +kernel
theorem dX8_take_131 : decode cX8_take 131 = .ok (.iload_n 1, 1) := by decide +kernel
theorem dX8_take_132 : decode cX8_take 132 = .ok (.invokevirtual 170, 3) := by decide +kernel
theorem dX8_take_135 : decode cX8_take 135 = .ok (.return_, 1) := by decide +kernel
theorem dX8_sequenceByte_0 : decode cX8_sequenceByte 0 = .ok (.aload_n 0, 1) := by decide +kernel
theorem dX8_sequenceByte_1 : decode cX8_sequenceByte 1 = .ok (.getfield 90, 3) := by decide +kernel
theorem dX8_sequenceByte_4 : decode cX8_sequenceByte 4 = .ok (.iconst 1, 1) := by decide +kernel
theorem dX8_sequenceByte_5 : decode cX8_sequenceByte 5 = .ok (.if_icmp .ne 11, 3) := by decide +kernel
theorem dX8_sequenceByte_8 : decode cX8_sequenceByte 8 = .ok (.aload_n 0, 1) := by decide +kernel
theorem dX8_sequenceByte_9 : decode cX8_sequenceByte 9 = .ok (.iload_n 1, 1) := by decide +kernel
theorem dX8_sequenceByte_10 : decode cX8_sequenceByte 10 = .ok (.invokevirtual 173, 3) := by decide +kernel
theorem dX8_sequenceByte_13 : decode cX8_sequenceByte 13 = .ok (.goto 46, 3) := by decide +kernel
theorem dX8_sequenceByte_16 : decode cX8_sequenceByte 16 = .ok (.aload_n 0, 1) := by decide +kernel
theorem dX8_sequenceByte_17 : decode cX8_sequenceByte 17 = .ok (.getfield 90, 3) := by decide +kernel
theorem dX8_sequenceByte_20 : decode cX8_sequenceByte 20 = .ok (.iconst 2, 1) := by decide +kernel
theorem dX8_sequenceByte_21 : decode cX8_sequenceByte 21 = .ok (.if_icmp .ne 11, 3) := by decide +kernel
theorem dX8_sequenceByte_24 : decode cX8_sequenceByte 24 = .ok (.aload_n 0, 1) := by decide +kernel
theorem dX8_sequenceByte_25 : decode cX8_sequenceByte 25 = .ok (.iload_n 1, 1) := by decide +kernel
theorem dX8_sequenceByte_26 : decode cX8_sequenceByte 26 = .ok (.invokevirtual 176, 3) := by decide +kernel
theorem dX8_sequenceByte_29 : decode cX8_sequenceByte 29 = .ok (.goto 30, 3) := by decide +kernel
theorem dX8_sequenceByte_32 : decode cX8_sequenceByte 32 = .ok (.aload_n 0, 1) := by decide +kernel
theorem dX8_sequenceByte_33 : decode cX8_sequenceByte 33 = .ok (.getfield 90, 3) := by decide +kernel
theorem dX8_sequenceByte_36 : decode cX8_sequenceByte 36 = .ok (.iconst 4, 1) := by decide +kernel
theorem dX8_sequenceByte_37 : decode cX8_sequenceByte 37 = .ok (.if_icmp .ne 11, 3) := by decide +kernel
theorem dX8_sequenceByte_40 : decode cX8_sequenceByte 40 = .ok (.aload_n 0, 1) := by decide +kernel
theorem dX8_sequenceByte_41 : decode cX8_sequenceByte 41 = .ok (.iload_n 1, 1) := by decide +kernel
theorem dX8_sequenceByte_42 : decode cX8_sequenceByte 42 = .ok (.invokevirtual 179, 3) := by decide +kernel
theorem dX8_sequenceByte_45 : decode cX8_sequenceByte 45 = .ok (.goto 14, 3) := by decide +kernel
theorem dX8_sequenceByte_48 : decode cX8_sequenceByte 48 = .ok (.iload_n 1, 1) := by decide +kernel
theorem dX8_sequenceByte_49 : decode cX8_sequenceByte 49 = .ok (.bipush 64, 2) := by decide +kernel
theorem dX8_sequenceByte_51 : decode cX8_sequenceByte 51 = .ok (.if_icmp .lt 8, 3) := by decide +kernel
theorem dX8_sequenceByte_54 : decode cX8_sequenceByte 54 = .ok (.aload_n 0, 1) := by decide +kernel
theorem dX8_sequenceByte_55 : decode cX8_sequenceByte 55 = .ok (.iconst 0, 1) := by decide +kernel
theorem dX8_sequenceByte_56 : decode cX8_sequenceByte 56 = .ok (.putfield 90, 3) := by decide +kernel
theorem dX8_sequenceByte_59 : decode cX8_sequenceByte 59 = .ok (.return_, 1) := by decide +kernel
theorem dX8_further_0 : decode cX8_further 0 = .ok (.aload_n 0, 1) := by decide +kernel
theorem dX8_further_1 : decode cX8_further 1 = .ok (.bipush 64, 2) := by decide +kernel
theorem dX8_further_3 : decode cX8_further 3 = .ok (.aload_n 0, 1) := by decide +kernel
theorem dX8_further_4 : decode cX8_further 4 = .ok (.getfield 182, 3) := by decide +kernel
theorem dX8_further_7 : decode cX8_further 7 = .ok (.imul, 1) := by decide +kernel
theorem dX8_further_8 : decode cX8_further 8 = .ok (.iload_n 1, 1) := by decide +kernel
theorem dX8_further_9 : decode cX8_further 9 = .ok (.iadd, 1) := by decide +kernel
theorem dX8_further_10 : decode cX8_further 10 = .ok (.sipush 128, 3) := by decide +kernel
theorem dX8_further_13 : decode cX8_further 13 = .ok (.isub, 1) := by decide +kernel
theorem dX8_further_14 : decode cX8_further 14 = .ok (.putfield 182, 3) := by decide +kernel
theorem dX8_further_17 : decode cX8_further 17 = .ok (.aload_n 0, 1) := by decide +kernel
theorem dX8_further_18 : decode cX8_further 18 = .ok (.aload_n 0, 1) := by decide +kernel
theorem dX8_further_19 : decode cX8_further 19 = .ok (.getfield 185, 3) := by decide +kernel
theorem dX8_further_22 : decode cX8_further 22 = .ok (.iconst 1, 1) := by decide +kernel
theorem dX8_further_23 : decode cX8_further 23 = .ok (.iadd, 1) := by decide +kernel
theorem dX8_further_24 : decode cX8_further 24 = .ok (.putfield 185, 3) := by decide +kernel
theorem dX8_further_27 : decode cX8_further 27 = .ok (.aload_n 0, 1) := by decide +kernel
theorem dX8_further_28 : decode cX8_further 28 = .ok (.getfield 185, 3) := by decide +kernel
theorem dX8_further_31 : decode cX8_further 31 = .ok (.aload_n 0, 1) := by decide +kernel
theorem dX8_further_32 : decode cX8_further 32 = .ok (.getfield 93, 3) := by decide +kernel
theorem dX8_further_35 : decode cX8_further 35 = .ok (.if_icmp .ge 4, 3) := by decide +kernel
theorem dX8_further_38 : decode cX8_further 38 = .ok (.return_, 1) := by decide +kernel
theorem dX8_further_39 : decode cX8_further 39 = .ok (.aload_n 0, 1) := by decide +kernel
theorem dX8_further_40 : decode cX8_further 40 = .ok (.getfield 93, 3) := by decide +kernel
theorem dX8_further_43 : decode cX8_further 43 = .ok (.iconst 2, 1) := by decide +kernel
theorem dX8_further_44 : decode cX8_further 44 = .ok (.if_icmp .ne 9, 3) := by decide +kernel
theorem dX8_further_47 : decode cX8_further 47 = .ok (.sipush 128, 3) := by decide +kernel
theorem dX8_further_50 : decode cX8_further 50 = .ok (.goto 19, 3) := by decide +kernel
theorem dX8_further_53 : decode cX8_further 53 = .ok (.aload_n 0, 1) := by decide +kernel
theorem dX8_further_54 : decode cX8_further 54 = .ok (.getfield 93, 3) := by decide +kernel
theorem dX8_further_57 : decode cX8_further 57 = .ok (.iconst 3, 1) := by decide +kernel
theorem dX8_further_58 : decode cX8_further 58 = .ok (.if_icmp .ne 9, 3) := by decide +kernel
theorem dX8_further_61 : decode cX8_further 61 = .ok (.sipush 2048, 3) := by decide +kernel
theorem dX8_further_64 : decode cX8_further 64 = .ok (.goto 5, 3) := by decide +kernel
theorem dX8_further_67 : decode cX8_further 67 = .ok (.ldc 188, 2) := by decide +kernel
theorem dX8_further_69 : decode cX8_further 69 = .ok (.istore_n 2, 1) := by decide +kernel
theorem dX8_further_70 : decode cX8_further 70 = .ok (.aload_n 0, 1) := by decide +kernel
theorem dX8_further_71 : decode cX8_further 71 = .ok (.getfield 182, 3) := by decide +kernel
theorem dX8_further_74 : decode cX8_further 74 = .ok (.iload_n 2, 1) := by decide +kernel
theorem dX8_further_75 : decode cX8_further 75 = .ok (.if_icmp .lt 30, 3) := by decide +kernel
theorem dX8_further_78 : decode cX8_further 78 = .ok (.aload_n 0, 1) := by decide +kernel
theorem dX8_further_79 : decode cX8_further 79 = .ok (.getfield 182, 3) := by decide +kernel
theorem dX8_further_82 : decode cX8_further 82 = .ok (.ldc 189, 2) := by decide +kernel
theorem dX8_further_84 : decode cX8_further 84 = .ok (.if_icmp .lt 12, 3) := by decide +kernel
theorem dX8_further_87 : decode cX8_further 87 = .ok (.aload_n 0, 1) := by decide +kernel
theorem dX8_further_88 : decode cX8_further 88 = .ok (.getfield 182, 3) := by decide +kernel
theorem dX8_further_91 : decode cX8_further 91 = .ok (.ldc 190, 2) := by decide +kernel
theorem dX8_further_93 : decode cX8_further 93 = .ok (.if_icmp .le 12, 3) := by decide +kernel
theorem dX8_further_96 : decode cX8_further 96 = .ok (.aload_n 0, 1) := by decide +kernel
theorem dX8_further_97 : decode cX8_further 97 = .ok (.getfield 182, 3) := by decide +kernel
theorem dX8_further_100 : decode cX8_further 100 = .ok (.ldc 191, 2) := by decide +kernel
theorem dX8_further_102 : decode cX8_further 102 = .ok (.if_icmp .le 7, 3) := by decide +kernel
theorem dX8_further_105 : decode cX8_further 105 = .ok (.iconst 1, 1) := by decide +kernel
theorem dX8_further_106 : decode cX8_further 106 = .ok (.goto 4, 3) := by decide +kernel
theorem dX8_further_109 : decode cX8_further 109 = .ok (.iconst 0, 1) := by decide +kernel
theorem dX8_further_110 : decode cX8_further 110 = .ok (.istore_n 3, 1) := by decide +kernel
theorem dX8_further_111 : decode cX8_further 111 = .ok (.aload_n 0, 1) := by decide +kernel
theorem dX8_further_112 : decode cX8_further 112 = .ok (.iconst 0, 1) := by decide +kernel
theorem dX8_further_113 : decode cX8_further 113 = .ok (.putfield 93, 3) := by decide +kernel
theorem dX8_further_116 : decode cX8_further 116 = .ok (.aload_n 0, 1) := by decide +kernel
theorem dX8_further_117 : decode cX8_further 117 = .ok (.iload_n 3, 1) := by decide +kernel
theorem dX8_further_118 : decode cX8_further 118 = .ok (.ifCond .eq 8, 3) := by decide +kernel
theorem dX8_further_121 : decode cX8_further 121 = .ok (.ldc 160, 2) := by decide +kernel
theorem dX8_further_123 : decode cX8_further 123 = .ok (.goto 7, 3) := by decide +kernel
theorem dX8_further_126 : decode cX8_further 126 = .ok (.aload_n 0, 1) := by decide +kernel
theorem dX8_further_127 : decode cX8_further 127 = .ok (.getfield 182, 3) := by decide +kernel
theorem dX8_further_130 : decode cX8_further 130 = .ok (.invokevirtual 161, 3) := by decide +kernel
theorem dX8_further_133 : decode cX8_further 133 = .ok (.return_, 1) := by decide +kernel
theorem dX8_letterByte_0 : decode cX8_letterByte 0 = .ok (.iload_n 1, 1) := by decide +kernel
theorem dX8_letterByte_1 : decode cX8_letterByte 1 = .ok (.bipush 127, 2) := by decide +kernel
theorem dX8_letterByte_3 : decode cX8_letterByte 3 = .ok (.if_icmp .ge 11, 3) := by decide +kernel
theorem dX8_letterByte_6 : decode cX8_letterByte 6 = .ok (.aload_n 0, 1) := by decide +kernel
theorem dX8_letterByte_7 : decode cX8_letterByte 7 = .ok (.iload_n 1, 1) := by decide +kernel
theorem dX8_letterByte_8 : decode cX8_letterByte 8 = .ok (.invokevirtual 161, 3) := by decide +kernel
theorem dX8_letterByte_11 : decode cX8_letterByte 11 = .ok (.goto 97, 3) := by decide +kernel
theorem dX8_letterByte_14 : decode cX8_letterByte 14 = .ok (.iload_n 1, 1) := by decide +kernel
theorem dX8_letterByte_15 : decode cX8_letterByte 15 = .ok (.sipush 194, 3) := by decide +kernel
theorem dX8_letterByte_18 : decode cX8_letterByte 18 = .ok (.if_icmp .lt 10, 3) := by decide +kernel
theorem dX8_letterByte_21 : decode cX8_letterByte 21 = .ok (.iload_n 1, 1) := by decide +kernel
theorem dX8_letterByte_22 : decode cX8_letterByte 22 = .ok (.sipush 244, 3) := by decide +kernel
theorem dX8_letterByte_25 : decode cX8_letterByte 25 = .ok (.if_icmp .le 12, 3) := by decide +kernel
theorem dX8_letterByte_28 : decode cX8_letterByte 28 = .ok (.aload_n 0, 1) := by decide +kernel
theorem dX8_letterByte_29 : decode cX8_letterByte 29 = .ok (.ldc 160, 2) := by decide +kernel
theorem dX8_letterByte_31 : decode cX8_letterByte 31 = .ok (.invokevirtual 161, 3) := by decide +kernel
theorem dX8_letterByte_34 : decode cX8_letterByte 34 = .ok (.goto 74, 3) := by decide +kernel
theorem dX8_letterByte_37 : decode cX8_letterByte 37 = .ok (.aload_n 0, 1) := by decide +kernel
theorem dX8_letterByte_38 : decode cX8_letterByte 38 = .ok (.iload_n 1, 1) := by decide +kernel
theorem dX8_letterByte_39 : decode cX8_letterByte 39 = .ok (.sipush 224, 3) := by decide +kernel
theorem dX8_letterByte_42 : decode cX8_letterByte 42 = .ok (.if_icmp .ge 7, 3) := by decide +kernel
theorem dX8_letterByte_45 : decode cX8_letterByte 45 = .ok (.iconst 2, 1) := by decide +kernel
theorem dX8_letterByte_46 : decode cX8_letterByte 46 = .ok (.goto 15, 3) := by decide +kernel
theorem dX8_letterByte_49 : decode cX8_letterByte 49 = .ok (.iload_n 1, 1) := by decide +kernel
theorem dX8_letterByte_50 : decode cX8_letterByte 50 = .ok (.sipush 240, 3) := by decide +kernel
theorem dX8_letterByte_53 : decode cX8_letterByte 53 = .ok (.if_icmp .ge 7, 3) := by decide +kernel
theorem dX8_letterByte_56 : decode cX8_letterByte 56 = .ok (.iconst 3, 1) := by decide +kernel
theorem dX8_letterByte_57 : decode cX8_letterByte 57 = .ok (.goto 4, 3) := by decide +kernel
theorem dX8_letterByte_60 : decode cX8_letterByte 60 = .ok (.iconst 4, 1) := by decide +kernel
theorem dX8_letterByte_61 : decode cX8_letterByte 61 = .ok (.putfield 93, 3) := by decide +kernel
theorem dX8_letterByte_64 : decode cX8_letterByte 64 = .ok (.aload_n 0, 1) := by decide +kernel
theorem dX8_letterByte_65 : decode cX8_letterByte 65 = .ok (.iconst 1, 1) := by decide +kernel
theorem dX8_letterByte_66 : decode cX8_letterByte 66 = .ok (.putfield 185, 3) := by decide +kernel
theorem dX8_letterByte_69 : decode cX8_letterByte 69 = .ok (.aload_n 0, 1) := by decide +kernel
theorem dX8_letterByte_70 : decode cX8_letterByte 70 = .ok (.iload_n 1, 1) := by decide +kernel
theorem dX8_letterByte_71 : decode cX8_letterByte 71 = .ok (.sipush 224, 3) := by decide +kernel
theorem dX8_letterByte_74 : decode cX8_letterByte 74 = .ok (.if_icmp .ge 11, 3) := by decide +kernel
theorem dX8_letterByte_77 : decode cX8_letterByte 77 = .ok (.iload_n 1, 1) := by decide +kernel
theorem dX8_letterByte_78 : decode cX8_letterByte 78 = .ok (.sipush 192, 3) := by decide +kernel
theorem dX8_letterByte_81 : decode cX8_letterByte 81 = .ok (.isub, 1) := by decide +kernel
theorem dX8_letterByte_82 : decode cX8_letterByte 82 = .ok (.goto 23, 3) := by decide +kernel
theorem dX8_letterByte_85 : decode cX8_letterByte 85 = .ok (.iload_n 1, 1) := by decide +kernel
theorem dX8_letterByte_86 : decode cX8_letterByte 86 = .ok (.sipush 240, 3) := by decide +kernel
theorem dX8_letterByte_89 : decode cX8_letterByte 89 = .ok (.if_icmp .ge 11, 3) := by decide +kernel
theorem dX8_letterByte_92 : decode cX8_letterByte 92 = .ok (.iload_n 1, 1) := by decide +kernel
theorem dX8_letterByte_93 : decode cX8_letterByte 93 = .ok (.sipush 224, 3) := by decide +kernel
theorem dX8_letterByte_96 : decode cX8_letterByte 96 = .ok (.isub, 1) := by decide +kernel
theorem dX8_letterByte_97 : decode cX8_letterByte 97 = .ok (.goto 8, 3) := by decide +kernel
theorem dX8_letterByte_100 : decode cX8_letterByte 100 = .ok (.iload_n 1, 1) := by decide +kernel
theorem dX8_letterByte_101 : decode cX8_letterByte 101 = .ok (.sipush 240, 3) := by decide +kernel
theorem dX8_letterByte_104 : decode cX8_letterByte 104 = .ok (.isub, 1) := by decide +kernel
theorem dX8_letterByte_105 : decode cX8_letterByte 105 = .ok (.putfield 182, 3) := by decide +kernel
theorem dX8_letterByte_108 : decode cX8_letterByte 108 = .ok (.return_, 1) := by decide +kernel
theorem dX8_control_0 : decode cX8_control 0 = .ok (.iload_n 1, 1) := by decide +kernel
theorem dX8_control_1 : decode cX8_control 1 = .ok (.bipush 7, 2) := by decide +kernel
theorem dX8_control_3 : decode cX8_control 3 = .ok (.if_icmp .ne 13, 3) := by decide +kernel
theorem dX8_control_6 : decode cX8_control 6 = .ok (.aload_n 0, 1) := by decide +kernel
theorem dX8_control_7 : decode cX8_control 7 = .ok (.aload_n 0, 1) := by decide +kernel
theorem dX8_control_8 : decode cX8_control 8 = .ok (.getfield 81, 3) := by decide +kernel
theorem dX8_control_11 : decode cX8_control 11 = .ok (.iconst 1, 1) := by decide +kernel
theorem dX8_control_12 : decode cX8_control 12 = .ok (.iadd, 1) := by decide +kernel
theorem dX8_control_13 : decode cX8_control 13 = .ok (.putfield 81, 3) := by decide +kernel
theorem dX8_control_16 : decode cX8_control 16 = .ok (.iload_n 1, 1) := by decide +kernel
theorem dX8_control_17 : decode cX8_control 17 = .ok (.bipush 8, 2) := by decide +kernel
theorem dX8_control_19 : decode cX8_control 19 = .ok (.if_icmp .ne 28, 3) := by decide +kernel
theorem dX8_control_22 : decode cX8_control 22 = .ok (.aload_n 0, 1) := by decide +kernel
theorem dX8_control_23 : decode cX8_control 23 = .ok (.aload_n 0, 1) := by decide +kernel
theorem dX8_control_24 : decode cX8_control 24 = .ok (.getfield 96, 3) := by decide +kernel
theorem dX8_control_27 : decode cX8_control 27 = .ok (.aload_n 0, 1) := by decide +kernel
theorem dX8_control_28 : decode cX8_control 28 = .ok (.getfield 99, 3) := by decide +kernel
theorem dX8_control_31 : decode cX8_control 31 = .ok (.ifCond .le 12, 3) := by decide +kernel
