theorem dX8_control_34 : decode cX8_control 34 = .ok (.aload_n 0, 1) := by decide +kernel
theorem dX8_control_35 : decode cX8_control 35 = .ok (.getfield 99, 3) := by decide +kernel
theorem dX8_control_38 : decode cX8_control 38 = .ok (.iconst 1, 1) := by decide +kernel
theorem dX8_control_39 : decode cX8_control 39 = .ok (.isub, 1) := by decide +kernel
theorem dX8_control_40 : decode cX8_control 40 = .ok (.goto 4, 3) := by decide +kernel
theorem dX8_control_43 : decode cX8_control 43 = .ok (.iconst 0, 1) := by decide +kernel
theorem dX8_control_44 : decode cX8_control 44 = .ok (.invokevirtual 52, 3) := by decide +kernel
theorem dX8_control_47 : decode cX8_control 47 = .ok (.iload_n 1, 1) := by decide +kernel
theorem dX8_control_48 : decode cX8_control 48 = .ok (.bipush 9, 2) := by decide +kernel
theorem dX8_control_50 : decode cX8_control 50 = .ok (.if_icmp .ne 67, 3) := by decide +kernel
theorem dX8_control_53 : decode cX8_control 53 = .ok (.aload_n 0, 1) := by decide +kernel
theorem dX8_control_54 : decode cX8_control 54 = .ok (.getfield 99, 3) := by decide +kernel
theorem dX8_control_57 : decode cX8_control 57 = .ok (.istore_n 2, 1) := by decide +kernel
theorem dX8_control_58 : decode cX8_control 58 = .ok (.iconst 0, 1) := by decide +kernel
theorem dX8_control_59 : decode cX8_control 59 = .ok (.istore_n 3, 1) := by decide +kernel
theorem dX8_control_60 : decode cX8_control 60 = .ok (.aload_n 0, 1) := by decide +kernel
theorem dX8_control_61 : decode cX8_control 61 = .ok (.getfield 99, 3) := by decide +kernel
theorem dX8_control_64 : decode cX8_control 64 = .ok (.iconst 1, 1) := by decide +kernel
theorem dX8_control_65 : decode cX8_control 65 = .ok (.iadd, 1) := by decide +kernel
theorem dX8_control_66 : decode cX8_control 66 = .ok (.istore 4, 2) := by decide +kernel
theorem dX8_control_68 : decode cX8_control 68 = .ok (.iload 4, 2) := by decide +kernel
theorem dX8_control_70 : decode cX8_control 70 = .ok (.bipush 12, 2) := by decide +kernel
theorem dX8_control_72 : decode cX8_control 72 = .ok (.if_icmp .ge 36, 3) := by decide +kernel
theorem dX8_control_75 : decode cX8_control 75 = .ok (.iload_n 3, 1) := by decide +kernel
theorem dX8_control_76 : decode cX8_control 76 = .ok (.ifCond .ne 6, 3) := by decide +kernel
theorem dX8_control_79 : decode cX8_control 79 = .ok (.iload 4, 2) := by decide +kernel
theorem dX8_control_81 : decode cX8_control 81 = .ok (.istore_n 2, 1) := by decide +kernel
theorem dX8_control_82 : decode cX8_control 82 = .ok (.iload_n 3, 1) := by decide +kernel
theorem dX8_control_83 : decode cX8_control 83 = .ok (.ifCond .ne 13, 3) := by decide +kernel
theorem dX8_control_86 : decode cX8_control 86 = .ok (.aload_n 0, 1) := by decide +kernel
theorem dX8_control_87 : decode cX8_control 87 = .ok (.getfield 22, 3) := by decide +kernel
theorem dX8_control_90 : decode cX8_control 90 = .ok (.iload 4, 2) := by decide +kernel
theorem dX8_control_92 : decode cX8_control 92 = .ok (.baload, 1) := by decide +kernel
theorem dX8_control_93 : decode cX8_control 93 = .ok (.ifCond .eq 7, 3) := by decide +kernel
theorem dX8_control_96 : decode cX8_control 96 = .ok (.iconst 1, 1) := by decide +kernel
theorem dX8_control_97 : decode cX8_control 97 = .ok (.goto 4, 3) := by decide +kernel
theorem dX8_control_100 : decode cX8_control 100 = .ok (.iconst 0, 1) := by decide +kernel
theorem dX8_control_101 : decode cX8_control 101 = .ok (.istore_n 3, 1) := by decide +kernel
theorem dX8_control_102 : decode cX8_control 102 = .ok (.iinc 4 1, 3) := by decide +kernel
theorem dX8_control_105 : decode cX8_control 105 = .ok (.goto (-37), 3) := by decide +kernel
theorem dX8_control_108 : decode cX8_control 108 = .ok (.aload_n 0, 1) := by decide +kernel
theorem dX8_control_109 : decode cX8_control 109 = .ok (.aload_n 0, 1) := by decide +kernel
theorem dX8_control_110 : decode cX8_control 110 = .ok (.getfield 96, 3) := by decide +kernel
theorem dX8_control_113 : decode cX8_control 113 = .ok (.iload_n 2, 1) := by decide +kernel
theorem dX8_control_114 : decode cX8_control 114 = .ok (.invokevirtual 52, 3) := by decide +kernel
theorem dX8_control_117 : decode cX8_control 117 = .ok (.iload_n 1, 1) := by decide +kernel
theorem dX8_control_118 : decode cX8_control 118 = .ok (.bipush 10, 2) := by decide +kernel
theorem dX8_control_120 : decode cX8_control 120 = .ok (.if_icmp .lt 13, 3) := by decide +kernel
theorem dX8_control_123 : decode cX8_control 123 = .ok (.iload_n 1, 1) := by decide +kernel
theorem dX8_control_124 : decode cX8_control 124 = .ok (.bipush 12, 2) := by decide +kernel
theorem dX8_control_126 : decode cX8_control 126 = .ok (.if_icmp .gt 7, 3) := by decide +kernel
theorem dX8_control_129 : decode cX8_control 129 = .ok (.aload_n 0, 1) := by decide +kernel
theorem dX8_control_130 : decode cX8_control 130 = .ok (.invokevirtual 148, 3) := by decide +kernel
theorem dX8_control_133 : decode cX8_control 133 = .ok (.iload_n 1, 1) := by decide +kernel
theorem dX8_control_134 : decode cX8_control 134 = .ok (.bipush 13, 2) := by decide +kernel
theorem dX8_control_136 : decode cX8_control 136 = .ok (.if_icmp .ne 12, 3) := by decide +kernel
theorem dX8_control_139 : decode cX8_control 139 = .ok (.aload_n 0, 1) := by decide +kernel
theorem dX8_control_140 : decode cX8_control 140 = .ok (.aload_n 0, 1) := by decide +kernel
theorem dX8_control_141 : decode cX8_control 141 = .ok (.getfield 96, 3) := by decide +kernel
theorem dX8_control_144 : decode cX8_control 144 = .ok (.iconst 0, 1) := by decide +kernel
theorem dX8_control_145 : decode cX8_control 145 = .ok (.invokevirtual 52, 3) := by decide +kernel
theorem dX8_control_148 : decode cX8_control 148 = .ok (.return_, 1) := by decide +kernel
theorem dX8_titleByte_0 : decode cX8_titleByte 0 = .ok (.iload_n 1, 1) := by decide +kernel
theorem dX8_titleByte_1 : decode cX8_titleByte 1 = .ok (.bipush 7, 2) := by decide +kernel
theorem dX8_titleByte_3 : decode cX8_titleByte 3 = .ok (.if_icmp .ne 47, 3) := by decide +kernel
theorem dX8_titleByte_6 : decode cX8_titleByte 6 = .ok (.aload_n 0, 1) := by decide +kernel
theorem dX8_titleByte_7 : decode cX8_titleByte 7 = .ok (.aload_n 0, 1) := by decide +kernel
theorem dX8_titleByte_8 : decode cX8_titleByte 8 = .ok (.getfield 192, 3) := by decide +kernel
theorem dX8_titleByte_11 : decode cX8_titleByte 11 = .ok (.putfield 87, 3) := by decide +kernel
theorem dX8_titleByte_14 : decode cX8_titleByte 14 = .ok (.iconst 0, 1) := by decide +kernel
theorem dX8_titleByte_15 : decode cX8_titleByte 15 = .ok (.istore_n 2, 1) := by decide +kernel
theorem dX8_titleByte_16 : decode cX8_titleByte 16 = .ok (.iload_n 2, 1) := by decide +kernel
theorem dX8_titleByte_17 : decode cX8_titleByte 17 = .ok (.aload_n 0, 1) := by decide +kernel
theorem dX8_titleByte_18 : decode cX8_titleByte 18 = .ok (.getfield 192, 3) := by decide +kernel
theorem dX8_titleByte_21 : decode cX8_titleByte 21 = .ok (.if_icmp .ge 21, 3) := by decide +kernel
theorem dX8_titleByte_24 : decode cX8_titleByte 24 = .ok (.aload_n 0, 1) := by decide +kernel
theorem dX8_titleByte_25 : decode cX8_titleByte 25 = .ok (.getfield 29, 3) := by decide +kernel
theorem dX8_titleByte_28 : decode cX8_titleByte 28 = .ok (.iload_n 2, 1) := by decide +kernel
theorem dX8_titleByte_29 : decode cX8_titleByte 29 = .ok (.aload_n 0, 1) := by decide +kernel
theorem dX8_titleByte_30 : decode cX8_titleByte 30 = .ok (.getfield 32, 3) := by decide +kernel
theorem dX8_titleByte_33 : decode cX8_titleByte 33 = .ok (.iload_n 2, 1) := by decide +kernel
theorem dX8_titleByte_34 : decode cX8_titleByte 34 = .ok (.iaload, 1) := by decide +kernel
theorem dX8_titleByte_35 : decode cX8_titleByte 35 = .ok (.iastore, 1) := by decide +kernel
theorem dX8_titleByte_36 : decode cX8_titleByte 36 = .ok (.iinc 2 1, 3) := by decide +kernel
theorem dX8_titleByte_39 : decode cX8_titleByte 39 = .ok (.goto (-23), 3) := by decide +kernel
theorem dX8_titleByte_42 : decode cX8_titleByte 42 = .ok (.aload_n 0, 1) := by decide +kernel
theorem dX8_titleByte_43 : decode cX8_titleByte 43 = .ok (.iconst 0, 1) := by decide +kernel
theorem dX8_titleByte_44 : decode cX8_titleByte 44 = .ok (.putfield 90, 3) := by decide +kernel
theorem dX8_titleByte_47 : decode cX8_titleByte 47 = .ok (.goto 38, 3) := by decide +kernel
theorem dX8_titleByte_50 : decode cX8_titleByte 50 = .ok (.iload_n 1, 1) := by decide +kernel
theorem dX8_titleByte_51 : decode cX8_titleByte 51 = .ok (.bipush 32, 2) := by decide +kernel
theorem dX8_titleByte_53 : decode cX8_titleByte 53 = .ok (.if_icmp .lt 32, 3) := by decide +kernel
theorem dX8_titleByte_56 : decode cX8_titleByte 56 = .ok (.aload_n 0, 1) := by decide +kernel
theorem dX8_titleByte_57 : decode cX8_titleByte 57 = .ok (.getfield 192, 3) := by decide +kernel
theorem dX8_titleByte_60 : decode cX8_titleByte 60 = .ok (.bipush 16, 2) := by decide +kernel
theorem dX8_titleByte_62 : decode cX8_titleByte 62 = .ok (.if_icmp .ge 23, 3) := by decide +kernel
theorem dX8_titleByte_65 : decode cX8_titleByte 65 = .ok (.aload_n 0, 1) := by decide +kernel
theorem dX8_titleByte_66 : decode cX8_titleByte 66 = .ok (.getfield 32, 3) := by decide +kernel
theorem dX8_titleByte_69 : decode cX8_titleByte 69 = .ok (.aload_n 0, 1) := by decide +kernel
theorem dX8_titleByte_70 : decode cX8_titleByte 70 = .ok (.getfield 192, 3) := by decide +kernel
theorem dX8_titleByte_73 : decode cX8_titleByte 73 = .ok (.iload_n 1, 1) := by decide +kernel
theorem dX8_titleByte_74 : decode cX8_titleByte 74 = .ok (.iastore, 1) := by decide +kernel
theorem dX8_titleByte_75 : decode cX8_titleByte 75 = .ok (.aload_n 0, 1) := by decide +kernel
theorem dX8_titleByte_76 : decode cX8_titleByte 76 = .ok (.aload_n 0, 1) := by decide +kernel
theorem dX8_titleByte_77 : decode cX8_titleByte 77 = .ok (.getfield 192, 3) := by decide +kernel
theorem dX8_titleByte_80 : decode cX8_titleByte 80 = .ok (.iconst 1, 1) := by decide +kernel
theorem dX8_titleByte_81 : decode cX8_titleByte 81 = .ok (.iadd, 1) := by decide +kernel
theorem dX8_titleByte_82 : decode cX8_titleByte 82 = .ok (.putfield 192, 3) := by decide +kernel
theorem dX8_titleByte_85 : decode cX8_titleByte 85 = .ok (.return_, 1) := by decide +kernel
theorem dX8_escape_0 : decode cX8_escape 0 = .ok (.iload_n 1, 1) := by decide +kernel
theorem dX8_escape_1 : decode cX8_escape 1 = .ok (.bipush 91, 2) := by decide +kernel
theorem dX8_escape_3 : decode cX8_escape 3 = .ok (.if_icmp .ne 40, 3) := by decide +kernel
theorem dX8_escape_6 : decode cX8_escape 6 = .ok (.aload_n 0, 1) := by decide +kernel
theorem dX8_escape_7 : decode cX8_escape 7 = .ok (.iconst 2, 1) := by decide +kernel
theorem dX8_escape_8 : decode cX8_escape 8 = .ok (.putfield 90, 3) := by decide +kernel
theorem dX8_escape_11 : decode cX8_escape 11 = .ok (.aload_n 0, 1) := by decide +kernel
theorem dX8_escape_12 : decode cX8_escape 12 = .ok (.iconst 0, 1) := by decide +kernel
theorem dX8_escape_13 : decode cX8_escape 13 = .ok (.putfield 195, 3) := by decide +kernel
theorem dX8_escape_16 : decode cX8_escape 16 = .ok (.aload_n 0, 1) := by decide +kernel
theorem dX8_escape_17 : decode cX8_escape 17 = .ok (.iconst 0, 1) := by decide +kernel
theorem dX8_escape_18 : decode cX8_escape 18 = .ok (.putfield 198, 3) := by decide +kernel
theorem dX8_escape_21 : decode cX8_escape 21 = .ok (.iconst 0, 1) := by decide +kernel
theorem dX8_escape_22 : decode cX8_escape 22 = .ok (.istore_n 2, 1) := by decide +kernel
theorem dX8_escape_23 : decode cX8_escape 23 = .ok (.iload_n 2, 1) := by decide +kernel
theorem dX8_escape_24 : decode cX8_escape 24 = .ok (.bipush 6, 2) := by decide +kernel
theorem dX8_escape_26 : decode cX8_escape 26 = .ok (.if_icmp .ge 16, 3) := by decide +kernel
theorem dX8_escape_29 : decode cX8_escape 29 = .ok (.aload_n 0, 1) := by decide +kernel
theorem dX8_escape_30 : decode cX8_escape 30 = .ok (.getfield 35, 3) := by decide +kernel
theorem dX8_escape_33 : decode cX8_escape 33 = .ok (.iload_n 2, 1) := by decide +kernel
theorem dX8_escape_34 : decode cX8_escape 34 = .ok (.iconst 0, 1) := by decide +kernel
theorem dX8_escape_35 : decode cX8_escape 35 = .ok (.iastore, 1) := by decide +kernel
theorem dX8_escape_36 : decode cX8_escape 36 = .ok (.iinc 2 1, 3) := by decide +kernel
theorem dX8_escape_39 : decode cX8_escape 39 = .ok (.goto (-16), 3) := by decide +kernel
theorem dX8_escape_42 : decode cX8_escape 42 = .ok (.return_, 1) := by decide +kernel
theorem dX8_escape_43 : decode cX8_escape 43 = .ok (.iload_n 1, 1) := by decide +kernel
theorem dX8_escape_44 : decode cX8_escape 44 = .ok (.bipush 93, 2) := by decide +kernel
theorem dX8_escape_46 : decode cX8_escape 46 = .ok (.if_icmp .ne 14, 3) := by decide +kernel
theorem dX8_escape_49 : decode cX8_escape 49 = .ok (.aload_n 0, 1) := by decide +kernel
theorem dX8_escape_50 : decode cX8_escape 50 = .ok (.iconst 4, 1) := by decide +kernel
theorem dX8_escape_51 : decode cX8_escape 51 = .ok (.putfield 90, 3) := by decide +kernel
theorem dX8_escape_54 : decode cX8_escape 54 = .ok (.aload_n 0, 1) := by decide +kernel
theorem dX8_escape_55 : decode cX8_escape 55 = .ok (.iconst 0, 1) := by decide +kernel
theorem dX8_escape_56 : decode cX8_escape 56 = .ok (.putfield 192, 3) := by decide +kernel
theorem dX8_escape_59 : decode cX8_escape 59 = .ok (.return_, 1) := by decide +kernel
theorem dX8_escape_60 : decode cX8_escape 60 = .ok (.aload_n 0, 1) := by decide +kernel
theorem dX8_escape_61 : decode cX8_escape 61 = .ok (.iload_n 1, 1) := by decide +kernel
theorem dX8_escape_62 : decode cX8_escape 62 = .ok (.bipush 48, 2) := by decide +kernel
theorem dX8_escape_64 : decode cX8_escape 64 = .ok (.if_icmp .ge 7, 3) := by decide +kernel
theorem dX8_escape_67 : decode cX8_escape 67 = .ok (.iconst 3, 1) := by decide +kernel
theorem dX8_escape_68 : decode cX8_escape 68 = .ok (.goto 4, 3) := by decide +kernel
theorem dX8_escape_71 : decode cX8_escape 71 = .ok (.iconst 0, 1) := by decide +kernel
theorem dX8_escape_72 : decode cX8_escape 72 = .ok (.putfield 90, 3) := by decide +kernel
theorem dX8_escape_75 : decode cX8_escape 75 = .ok (.iload_n 1, 1) := by decide +kernel
theorem dX8_escape_76 : decode cX8_escape 76 = .ok (.bipush 55, 2) := by decide +kernel
theorem dX8_escape_78 : decode cX8_escape 78 = .ok (.if_icmp .ne 7, 3) := by decide +kernel
theorem dX8_escape_81 : decode cX8_escape 81 = .ok (.aload_n 0, 1) := by decide +kernel
theorem dX8_escape_82 : decode cX8_escape 82 = .ok (.invokevirtual 75, 3) := by decide +kernel
theorem dX8_escape_85 : decode cX8_escape 85 = .ok (.iload_n 1, 1) := by decide +kernel
theorem dX8_escape_86 : decode cX8_escape 86 = .ok (.bipush 56, 2) := by decide +kernel
theorem dX8_escape_88 : decode cX8_escape 88 = .ok (.if_icmp .ne 7, 3) := by decide +kernel
theorem dX8_escape_91 : decode cX8_escape 91 = .ok (.aload_n 0, 1) := by decide +kernel
theorem dX8_escape_92 : decode cX8_escape 92 = .ok (.invokevirtual 201, 3) := by decide +kernel
theorem dX8_escape_95 : decode cX8_escape 95 = .ok (.iload_n 1, 1) := by decide +kernel
theorem dX8_escape_96 : decode cX8_escape 96 = .ok (.bipush 68, 2) := by decide +kernel
theorem dX8_escape_98 : decode cX8_escape 98 = .ok (.if_icmp .ne 7, 3) := by decide +kernel
theorem dX8_escape_101 : decode cX8_escape 101 = .ok (.aload_n 0, 1) := by decide +kernel
theorem dX8_escape_102 : decode cX8_escape 102 = .ok (.invokevirtual 148, 3) := by decide +kernel
theorem dX8_escape_105 : decode cX8_escape 105 = .ok (.iload_n 1, 1) := by decide +kernel
theorem dX8_escape_106 : decode cX8_escape 106 = .ok (.bipush 69, 2) := by decide +kernel
theorem dX8_escape_108 : decode cX8_escape 108 = .ok (.if_icmp .ne 16, 3) := by decide +kernel
theorem dX8_escape_111 : decode cX8_escape 111 = .ok (.aload_n 0, 1) := by decide +kernel
theorem dX8_escape_112 : decode cX8_escape 112 = .ok (.aload_n 0, 1) := by decide +kernel
theorem dX8_escape_113 : decode cX8_escape 113 = .ok (.getfield 96, 3) := by decide +kernel
theorem dX8_escape_116 : decode cX8_escape 116 = .ok (.iconst 0, 1) := by decide +kernel
theorem dX8_escape_117 : decode cX8_escape 117 = .ok (.invokevirtual 52, 3) := by decide +kernel
theorem dX8_escape_120 : decode cX8_escape 120 = .ok (.aload_n 0, 1) := by decide +kernel
theorem dX8_escape_121 : decode cX8_escape 121 = .ok (.invokevirtual 148, 3) := by decide +kernel
theorem dX8_escape_124 : decode cX8_escape 124 = .ok (.iload_n 1, 1) := by decide +kernel
theorem dX8_escape_125 : decode cX8_escape 125 = .ok (.bipush 72, 2) := by decide +kernel
theorem dX8_escape_127 : decode cX8_escape 127 = .ok (.if_icmp .ne 13, 3) := by decide +kernel
theorem dX8_escape_130 : decode cX8_escape 130 = .ok (.aload_n 0, 1) := by decide +kernel
theorem dX8_escape_131 : decode cX8_escape 131 = .ok (.getfield 22, 3) := by decide +kernel
theorem dX8_escape_134 : decode cX8_escape 134 = .ok (.aload_n 0, 1) := by decide +kernel
theorem dX8_escape_135 : decode cX8_escape 135 = .ok (.getfield 99, 3) := by decide +kernel
theorem dX8_escape_138 : decode cX8_escape 138 = .ok (.iconst 1, 1) := by decide +kernel
theorem dX8_escape_139 : decode cX8_escape 139 = .ok (.bastore, 1) := by decide +kernel
theorem dX8_escape_140 : decode cX8_escape 140 = .ok (.iload_n 1, 1) := by decide +kernel
theorem dX8_escape_141 : decode cX8_escape 141 = .ok (.bipush 77, 2) := by decide +kernel
theorem dX8_escape_143 : decode cX8_escape 143 = .ok (.if_icmp .ne 7, 3) := by decide +kernel
theorem dX8_escape_146 : decode cX8_escape 146 = .ok (.aload_n 0, 1) := by decide +kernel
theorem dX8_escape_147 : decode cX8_escape 147 = .ok (.invokevirtual 204, 3) := by decide +kernel
theorem dX8_escape_150 : decode cX8_escape 150 = .ok (.iload_n 1, 1) := by decide +kernel
theorem dX8_escape_151 : decode cX8_escape 151 = .ok (.bipush 99, 2) := by decide +kernel
theorem dX8_escape_153 : decode cX8_escape 153 = .ok (.if_icmp .ne 7, 3) := by decide +kernel
theorem dX8_escape_156 : decode cX8_escape 156 = .ok (.aload_n 0, 1) := by decide +kernel
theorem dX8_escape_157 : decode cX8_escape 157 = .ok (.invokevirtual 38, 3) := by decide +kernel
theorem dX8_escape_160 : decode cX8_escape 160 = .ok (.return_, 1) := by decide +kernel
theorem dX8_sequence_0 : decode cX8_sequence 0 = .ok (.iload_n 1, 1) := by decide +kernel
theorem dX8_sequence_1 : decode cX8_sequence 1 = .ok (.bipush 48, 2) := by decide +kernel
theorem dX8_sequence_3 : decode cX8_sequence 3 = .ok (.if_icmp .lt 78, 3) := by decide +kernel
theorem dX8_sequence_6 : decode cX8_sequence 6 = .ok (.iload_n 1, 1) := by decide +kernel
theorem dX8_sequence_7 : decode cX8_sequence 7 = .ok (.bipush 57, 2) := by decide +kernel
theorem dX8_sequence_9 : decode cX8_sequence 9 = .ok (.if_icmp .gt 72, 3) := by decide +kernel
theorem dX8_sequence_12 : decode cX8_sequence 12 = .ok (.aload_n 0, 1) := by decide +kernel
theorem dX8_sequence_13 : decode cX8_sequence 13 = .ok (.getfield 195, 3) := by decide +kernel
theorem dX8_sequence_16 : decode cX8_sequence 16 = .ok (.ifCond .ne 8, 3) := by decide +kernel
theorem dX8_sequence_19 : decode cX8_sequence 19 = .ok (.aload_n 0, 1) := by decide +kernel
theorem dX8_sequence_20 : decode cX8_sequence 20 = .ok (.iconst 1, 1) := by decide +kernel
theorem dX8_sequence_21 : decode cX8_sequence 21 = .ok (.putfield 195, 3) := by decide +kernel
theorem dX8_sequence_24 : decode cX8_sequence 24 = .ok (.aload_n 0, 1) := by decide +kernel
theorem dX8_sequence_25 : decode cX8_sequence 25 = .ok (.getfield 195, 3) := by decide +kernel
theorem dX8_sequence_28 : decode cX8_sequence 28 = .ok (.bipush 6, 2) := by decide +kernel
theorem dX8_sequence_30 : decode cX8_sequence 30 = .ok (.if_icmp .gt 183, 3) := by decide +kernel
theorem dX8_sequence_33 : decode cX8_sequence 33 = .ok (.bipush 10, 2) := by decide +kernel
theorem dX8_sequence_35 : decode cX8_sequence 35 = .ok (.aload_n 0, 1) := by decide +kernel
theorem dX8_sequence_36 : decode cX8_sequence 36 = .ok (.getfield 35, 3) := by decide +kernel
theorem dX8_sequence_39 : decode cX8_sequence 39 = .ok (.aload_n 0, 1) := by decide +kernel
theorem dX8_sequence_40 : decode cX8_sequence 40 = .ok (.getfield 195, 3) := by decide +kernel
theorem dX8_sequence_43 : decode cX8_sequence 43 = .ok (.iconst 1, 1) := by decide +kernel
theorem dX8_sequence_44 : decode cX8_sequence 44 = .ok (.isub, 1) := by decide +kernel
theorem dX8_sequence_45 : decode cX8_sequence 45 = .ok (.iaload, 1) := by decide +kernel
theorem dX8_sequence_46 : decode cX8_sequence 46 = .ok (.imul, 1) := by decide +kernel
theorem dX8_sequence_47 : decode cX8_sequence 47 = .ok (.iload_n 1, 1) := by decide +kernel
theorem dX8_sequence_48 : decode cX8_sequence 48 = .ok (.iadd, 1) := by decide +kernel
theorem dX8_sequence_49 : decode cX8_sequence 49 = .ok (.bipush 48, 2) := by decide +kernel
theorem dX8_sequence_51 : decode cX8_sequence 51 = .ok (.isub, 1) := by decide +kernel
theorem dX8_sequence_52 : decode cX8_sequence 52 = .ok (.istore_n 2, 1) := by decide +kernel
theorem dX8_sequence_53 : decode cX8_sequence 53 = .ok (.aload_n 0, 1) := by decide +kernel
theorem dX8_sequence_54 : decode cX8_sequence 54 = .ok (.getfield 35, 3) := by decide +kernel
theorem dX8_sequence_57 : decode cX8_sequence 57 = .ok (.aload_n 0, 1) := by decide +kernel
theorem dX8_sequence_58 : decode cX8_sequence 58 = .ok (.getfield 195, 3) := by decide +kernel
theorem dX8_sequence_61 : decode cX8_sequence 61 = .ok (.iconst 1, 1) := by decide +kernel
theorem dX8_sequence_62 : decode cX8_sequence 62 = .ok (.isub, 1) := by decide +kernel
theorem dX8_sequence_63 : decode cX8_sequence 63 = .ok (.iload_n 2, 1) := by decide +kernel
theorem dX8_sequence_64 : decode cX8_sequence 64 = .ok (.sipush 9999, 3) := by decide +kernel
theorem dX8_sequence_67 : decode cX8_sequence 67 = .ok (.if_icmp .le 9, 3) := by decide +kernel
theorem dX8_sequence_70 : decode cX8_sequence 70 = .ok (.sipush 9999, 3) := by decide +kernel
theorem dX8_sequence_73 : decode cX8_sequence 73 = .ok (.goto 4, 3) := by decide +kernel
theorem dX8_sequence_76 : decode cX8_sequence 76 = .ok (.iload_n 2, 1) := by decide +kernel
theorem dX8_sequence_77 : decode cX8_sequence 77 = .ok (.iastore, 1) := by decide +kernel
theorem dX8_sequence_78 : decode cX8_sequence 78 = .ok (.goto 135, 3) := by decide +kernel
theorem dX8_sequence_81 : decode cX8_sequence 81 = .ok (.iload_n 1, 1) := by decide +kernel
theorem dX8_sequence_82 : decode cX8_sequence 82 = .ok (.bipush 59, 2) := by decide +kernel
theorem dX8_sequence_84 : decode cX8_sequence 84 = .ok (.if_icmp .ne 43, 3) := by decide +kernel
theorem dX8_sequence_87 : decode cX8_sequence 87 = .ok (.aload_n 0, 1) := by decide +kernel
theorem dX8_sequence_88 : decode cX8_sequence 88 = .ok (.aload_n 0, 1) := by decide +kernel
theorem dX8_sequence_89 : decode cX8_sequence 89 = .ok (.getfield 195, 3) := by decide +kernel
theorem dX8_sequence_92 : decode cX8_sequence 92 = .ok (.ifCond .ne 7, 3) := by decide +kernel
theorem dX8_sequence_95 : decode cX8_sequence 95 = .ok (.iconst 2, 1) := by decide +kernel
theorem dX8_sequence_96 : decode cX8_sequence 96 = .ok (.goto 25, 3) := by decide +kernel
theorem dX8_sequence_99 : decode cX8_sequence 99 = .ok (.aload_n 0, 1) := by decide +kernel
theorem dX8_sequence_100 : decode cX8_sequence 100 = .ok (.getfield 195, 3) := by decide +kernel
theorem dX8_sequence_103 : decode cX8_sequence 103 = .ok (.bipush 100, 2) := by decide +kernel
theorem dX8_sequence_105 : decode cX8_sequence 105 = .ok (.if_icmp .ge 12, 3) := by decide +kernel
theorem dX8_sequence_108 : decode cX8_sequence 108 = .ok (.aload_n 0, 1) := by decide +kernel
theorem dX8_sequence_109 : decode cX8_sequence 109 = .ok (.getfield 195, 3) := by decide +kernel
theorem dX8_sequence_112 : decode cX8_sequence 112 = .ok (.iconst 1, 1) := by decide +kernel
theorem dX8_sequence_113 : decode cX8_sequence 113 = .ok (.iadd, 1) := by decide +kernel
theorem dX8_sequence_114 : decode cX8_sequence 114 = .ok (.goto 7, 3) := by decide +kernel
theorem dX8_sequence_117 : decode cX8_sequence 117 = .ok (.aload_n 0, 1) := by decide +kernel
theorem dX8_sequence_118 : decode cX8_sequence 118 = .ok (.getfield 195, 3) := by decide +kernel
theorem dX8_sequence_121 : decode cX8_sequence 121 = .ok (.putfield 195, 3) := by decide +kernel
theorem dX8_sequence_124 : decode cX8_sequence 124 = .ok (.goto 89, 3) := by decide +kernel
theorem dX8_sequence_127 : decode cX8_sequence 127 = .ok (.iload_n 1, 1) := by decide +kernel
theorem dX8_sequence_128 : decode cX8_sequence 128 = .ok (.bipush 63, 2) := by decide +kernel
theorem dX8_sequence_130 : decode cX8_sequence 130 = .ok (.if_icmp .ne 25, 3) := by decide +kernel
theorem dX8_sequence_133 : decode cX8_sequence 133 = .ok (.aload_n 0, 1) := by decide +kernel
theorem dX8_sequence_134 : decode cX8_sequence 134 = .ok (.getfield 195, 3) := by decide +kernel
theorem dX8_sequence_137 : decode cX8_sequence 137 = .ok (.ifCond .ne 18, 3) := by decide +kernel
theorem dX8_sequence_140 : decode cX8_sequence 140 = .ok (.aload_n 0, 1) := by decide +kernel
theorem dX8_sequence_141 : decode cX8_sequence 141 = .ok (.getfield 198, 3) := by decide +kernel
theorem dX8_sequence_144 : decode cX8_sequence 144 = .ok (.ifCond .ne 11, 3) := by decide +kernel
theorem dX8_sequence_147 : decode cX8_sequence 147 = .ok (.aload_n 0, 1) := by decide +kernel
theorem dX8_sequence_148 : decode cX8_sequence 148 = .ok (.iconst 1, 1) := by decide +kernel
theorem dX8_sequence_149 : decode cX8_sequence 149 = .ok (.putfield 198, 3) := by decide +kernel
theorem dX8_sequence_152 : decode cX8_sequence 152 = .ok (.goto 61, 3) := by decide +kernel
theorem dX8_sequence_155 : decode cX8_sequence 155 = .ok (.iload_n 1, 1) := by decide +kernel
theorem dX8_sequence_156 : decode cX8_sequence 156 = .ok (.bipush 64, 2) := by decide +kernel
theorem dX8_sequence_158 : decode cX8_sequence 158 = .ok (.if_icmp .ge 11, 3) := by decide +kernel
theorem dX8_sequence_161 : decode cX8_sequence 161 = .ok (.aload_n 0, 1) := by decide +kernel
theorem dX8_sequence_162 : decode cX8_sequence 162 = .ok (.iconst 3, 1) := by decide +kernel
theorem dX8_sequence_163 : decode cX8_sequence 163 = .ok (.putfield 90, 3) := by decide +kernel
theorem dX8_sequence_166 : decode cX8_sequence 166 = .ok (.goto 47, 3) := by decide +kernel
theorem dX8_sequence_169 : decode cX8_sequence 169 = .ok (.aload_n 0, 1) := by decide +kernel
theorem dX8_sequence_170 : decode cX8_sequence 170 = .ok (.iconst 0, 1) := by decide +kernel
theorem dX8_sequence_171 : decode cX8_sequence 171 = .ok (.putfield 90, 3) := by decide +kernel
theorem dX8_sequence_174 : decode cX8_sequence 174 = .ok (.aload_n 0, 1) := by decide +kernel
theorem dX8_sequence_175 : decode cX8_sequence 175 = .ok (.getfield 198, 3) := by decide +kernel
theorem dX8_sequence_178 : decode cX8_sequence 178 = .ok (.ifCond .eq 11, 3) := by decide +kernel
theorem dX8_sequence_181 : decode cX8_sequence 181 = .ok (.aload_n 0, 1) := by decide +kernel
theorem dX8_sequence_182 : decode cX8_sequence 182 = .ok (.iload_n 1, 1) := by decide +kernel
theorem dX8_sequence_183 : decode cX8_sequence 183 = .ok (.invokevirtual 207, 3) := by decide +kernel
theorem dX8_sequence_186 : decode cX8_sequence 186 = .ok (.goto 27, 3) := by decide +kernel
theorem dX8_sequence_189 : decode cX8_sequence 189 = .ok (.aload_n 0, 1) := by decide +kernel
theorem dX8_sequence_190 : decode cX8_sequence 190 = .ok (.iload_n 1, 1) := by decide +kernel
theorem dX8_sequence_191 : decode cX8_sequence 191 = .ok (.aload_n 0, 1) := by decide +kernel
theorem dX8_sequence_192 : decode cX8_sequence 192 = .ok (.getfield 35, 3) := by decide +kernel
theorem dX8_sequence_195 : decode cX8_sequence 195 = .ok (.iconst 0, 1) := by decide +kernel
theorem dX8_sequence_196 : decode cX8_sequence 196 = .ok (.iaload, 1) := by decide +kernel
theorem dX8_sequence_197 : decode cX8_sequence 197 = .ok (.ifCond .ne 7, 3) := by decide +kernel
theorem dX8_sequence_200 : decode cX8_sequence 200 = .ok (.iconst 1, 1) := by decide +kernel
theorem dX8_sequence_201 : decode cX8_sequence 201 = .ok (.goto 9, 3) := by decide +kernel
theorem dX8_sequence_204 : decode cX8_sequence 204 = .ok (.aload_n 0, 1) := by decide +kernel
theorem dX8_sequence_205 : decode cX8_sequence 205 = .ok (.getfield 35, 3) := by decide +kernel
theorem dX8_sequence_208 : decode cX8_sequence 208 = .ok (.iconst 0, 1) := by decide +kernel
theorem dX8_sequence_209 : decode cX8_sequence 209 = .ok (.iaload, 1) := by decide +kernel
theorem dX8_sequence_210 : decode cX8_sequence 210 = .ok (.invokevirtual 210, 3) := by decide +kernel
theorem dX8_sequence_213 : decode cX8_sequence 213 = .ok (.return_, 1) := by decide +kernel
theorem dX8_kept_0 : decode cX8_kept 0 = .ok (.aload_n 0, 1) := by decide +kernel
theorem dX8_kept_1 : decode cX8_kept 1 = .ok (.getfield 195, 3) := by decide +kernel
theorem dX8_kept_4 : decode cX8_kept 4 = .ok (.bipush 6, 2) := by decide +kernel
theorem dX8_kept_6 : decode cX8_kept 6 = .ok (.if_icmp .ge 10, 3) := by decide +kernel
theorem dX8_kept_9 : decode cX8_kept 9 = .ok (.aload_n 0, 1) := by decide +kernel
theorem dX8_kept_10 : decode cX8_kept 10 = .ok (.getfield 195, 3) := by decide +kernel
theorem dX8_kept_13 : decode cX8_kept 13 = .ok (.goto 5, 3) := by decide +kernel
theorem dX8_kept_16 : decode cX8_kept 16 = .ok (.bipush 6, 2) := by decide +kernel
theorem dX8_kept_18 : decode cX8_kept 18 = .ok (.ireturn, 1) := by decide +kernel
theorem dX8_privately_0 : decode cX8_privately 0 = .ok (.iload_n 1, 1) := by decide +kernel
theorem dX8_privately_1 : decode cX8_privately 1 = .ok (.bipush 104, 2) := by decide +kernel
theorem dX8_privately_3 : decode cX8_privately 3 = .ok (.if_icmp .eq 10, 3) := by decide +kernel
theorem dX8_privately_6 : decode cX8_privately 6 = .ok (.iload_n 1, 1) := by decide +kernel
theorem dX8_privately_7 : decode cX8_privately 7 = .ok (.bipush 108, 2) := by decide +kernel
theorem dX8_privately_9 : decode cX8_privately 9 = .ok (.if_icmp .eq 4, 3) := by decide +kernel
theorem dX8_privately_12 : decode cX8_privately 12 = .ok (.return_, 1) := by decide +kernel
theorem dX8_privately_13 : decode cX8_privately 13 = .ok (.iload_n 1, 1) := by decide +kernel
theorem dX8_privately_14 : decode cX8_privately 14 = .ok (.bipush 104, 2) := by decide +kernel
theorem dX8_privately_16 : decode cX8_privately 16 = .ok (.if_icmp .ne 7, 3) := by decide +kernel
theorem dX8_privately_19 : decode cX8_privately 19 = .ok (.iconst 1, 1) := by decide +kernel
theorem dX8_privately_20 : decode cX8_privately 20 = .ok (.goto 4, 3) := by decide +kernel
theorem dX8_privately_23 : decode cX8_privately 23 = .ok (.iconst 0, 1) := by decide +kernel
theorem dX8_privately_24 : decode cX8_privately 24 = .ok (.istore_n 2, 1) := by decide +kernel
theorem dX8_privately_25 : decode cX8_privately 25 = .ok (.iconst 0, 1) := by decide +kernel
theorem dX8_privately_26 : decode cX8_privately 26 = .ok (.istore_n 3, 1) := by decide +kernel
theorem dX8_privately_27 : decode cX8_privately 27 = .ok (.iload_n 3, 1) := by decide +kernel
theorem dX8_privately_28 : decode cX8_privately 28 = .ok (.aload_n 0, 1) := by decide +kernel
theorem dX8_privately_29 : decode cX8_privately 29 = .ok (.invokevirtual 213, 3) := by decide +kernel
theorem dX8_privately_32 : decode cX8_privately 32 = .ok (.if_icmp .ge 101, 3) := by decide +kernel
theorem dX8_privately_35 : decode cX8_privately 35 = .ok (.aload_n 0, 1) := by decide +kernel
theorem dX8_privately_36 : decode cX8_privately 36 = .ok (.getfield 35, 3) := by decide +kernel
theorem dX8_privately_39 : decode cX8_privately 39 = .ok (.iload_n 3, 1) := by decide +kernel
theorem dX8_privately_40 : decode cX8_privately 40 = .ok (.iaload, 1) := by decide +kernel
theorem dX8_privately_41 : decode cX8_privately 41 = .ok (.bipush 6, 2) := by decide +kernel
theorem dX8_privately_43 : decode cX8_privately 43 = .ok (.if_icmp .ne 14, 3) := by decide +kernel
theorem dX8_privately_46 : decode cX8_privately 46 = .ok (.aload_n 0, 1) := by decide +kernel
theorem dX8_privately_47 : decode cX8_privately 47 = .ok (.iload_n 2, 1) := by decide +kernel
theorem dX8_privately_48 : decode cX8_privately 48 = .ok (.putfield 69, 3) := by decide +kernel
theorem dX8_privately_51 : decode cX8_privately 51 = .ok (.aload_n 0, 1) := by decide +kernel
theorem dX8_privately_52 : decode cX8_privately 52 = .ok (.iconst 1, 1) := by decide +kernel
theorem dX8_privately_53 : decode cX8_privately 53 = .ok (.iconst 0, 1) := by decide +kernel
theorem dX8_privately_54 : decode cX8_privately 54 = .ok (.invokevirtual 216, 3) := by decide +kernel
theorem dX8_privately_57 : decode cX8_privately 57 = .ok (.aload_n 0, 1) := by decide +kernel
theorem dX8_privately_58 : decode cX8_privately 58 = .ok (.getfield 35, 3) := by decide +kernel
theorem dX8_privately_61 : decode cX8_privately 61 = .ok (.iload_n 3, 1) := by decide +kernel
theorem dX8_privately_62 : decode cX8_privately 62 = .ok (.iaload, 1) := by decide +kernel
theorem dX8_privately_63 : decode cX8_privately 63 = .ok (.bipush 7, 2) := by decide +kernel
theorem dX8_privately_65 : decode cX8_privately 65 = .ok (.if_icmp .ne 8, 3) := by decide +kernel
theorem dX8_privately_68 : decode cX8_privately 68 = .ok (.aload_n 0, 1) := by decide +kernel
theorem dX8_privately_69 : decode cX8_privately 69 = .ok (.iload_n 2, 1) := by decide +kernel
theorem dX8_privately_70 : decode cX8_privately 70 = .ok (.putfield 72, 3) := by decide +kernel
theorem dX8_privately_73 : decode cX8_privately 73 = .ok (.aload_n 0, 1) := by decide +kernel
theorem dX8_privately_74 : decode cX8_privately 74 = .ok (.getfield 35, 3) := by decide +kernel
theorem dX8_privately_77 : decode cX8_privately 77 = .ok (.iload_n 3, 1) := by decide +kernel
theorem dX8_privately_78 : decode cX8_privately 78 = .ok (.iaload, 1) := by decide +kernel
theorem dX8_privately_79 : decode cX8_privately 79 = .ok (.bipush 47, 2) := by decide +kernel
theorem dX8_privately_81 : decode cX8_privately 81 = .ok (.if_icmp .ne 26, 3) := by decide +kernel
theorem dX8_privately_84 : decode cX8_privately 84 = .ok (.iload_n 2, 1) := by decide +kernel
theorem dX8_privately_85 : decode cX8_privately 85 = .ok (.ifCond .eq 22, 3) := by decide +kernel
theorem dX8_privately_88 : decode cX8_privately 88 = .ok (.aload_n 0, 1) := by decide +kernel
theorem dX8_privately_89 : decode cX8_privately 89 = .ok (.getfield 49, 3) := by decide +kernel
theorem dX8_privately_92 : decode cX8_privately 92 = .ok (.ifCond .ne 15, 3) := by decide +kernel
theorem dX8_privately_95 : decode cX8_privately 95 = .ok (.aload_n 0, 1) := by decide +kernel
theorem dX8_privately_96 : decode cX8_privately 96 = .ok (.iconst 1, 1) := by decide +kernel
theorem dX8_privately_97 : decode cX8_privately 97 = .ok (.putfield 49, 3) := by decide +kernel
theorem dX8_privately_100 : decode cX8_privately 100 = .ok (.aload_n 0, 1) := by decide +kernel
theorem dX8_privately_101 : decode cX8_privately 101 = .ok (.iconst 0, 1) := by decide +kernel
theorem dX8_privately_102 : decode cX8_privately 102 = .ok (.bipush 95, 2) := by decide +kernel
theorem dX8_privately_104 : decode cX8_privately 104 = .ok (.invokevirtual 219, 3) := by decide +kernel
theorem dX8_privately_107 : decode cX8_privately 107 = .ok (.aload_n 0, 1) := by decide +kernel
theorem dX8_privately_108 : decode cX8_privately 108 = .ok (.getfield 35, 3) := by decide +kernel
theorem dX8_privately_111 : decode cX8_privately 111 = .ok (.iload_n 3, 1) := by decide +kernel
theorem dX8_privately_112 : decode cX8_privately 112 = .ok (.iaload, 1) := by decide +kernel
theorem dX8_privately_113 : decode cX8_privately 113 = .ok (.bipush 47, 2) := by decide +kernel
theorem dX8_privately_115 : decode cX8_privately 115 = .ok (.if_icmp .ne 12, 3) := by decide +kernel
theorem dX8_privately_118 : decode cX8_privately 118 = .ok (.iload_n 2, 1) := by decide +kernel
theorem dX8_privately_119 : decode cX8_privately 119 = .ok (.ifCond .ne 8, 3) := by decide +kernel
theorem dX8_privately_122 : decode cX8_privately 122 = .ok (.aload_n 0, 1) := by decide +kernel
theorem dX8_privately_123 : decode cX8_privately 123 = .ok (.iconst 0, 1) := by decide +kernel
theorem dX8_privately_124 : decode cX8_privately 124 = .ok (.putfield 49, 3) := by decide +kernel
theorem dX8_privately_127 : decode cX8_privately 127 = .ok (.iinc 3 1, 3) := by decide +kernel
theorem dX8_privately_130 : decode cX8_privately 130 = .ok (.goto (-103), 3) := by decide +kernel
theorem dX8_privately_133 : decode cX8_privately 133 = .ok (.return_, 1) := by decide +kernel
theorem dX8_atMost_0 : decode cX8_atMost 0 = .ok (.iload_n 0, 1) := by decide +kernel
theorem dX8_atMost_1 : decode cX8_atMost 1 = .ok (.iload_n 1, 1) := by decide +kernel
theorem dX8_atMost_2 : decode cX8_atMost 2 = .ok (.if_icmp .ge 7, 3) := by decide +kernel
theorem dX8_atMost_5 : decode cX8_atMost 5 = .ok (.iload_n 0, 1) := by decide +kernel
theorem dX8_atMost_6 : decode cX8_atMost 6 = .ok (.goto 4, 3) := by decide +kernel
theorem dX8_atMost_9 : decode cX8_atMost 9 = .ok (.iload_n 1, 1) := by decide +kernel
theorem dX8_atMost_10 : decode cX8_atMost 10 = .ok (.ireturn, 1) := by decide +kernel
theorem dX8_atLeast_0 : decode cX8_atLeast 0 = .ok (.iload_n 0, 1) := by decide +kernel
theorem dX8_atLeast_1 : decode cX8_atLeast 1 = .ok (.iload_n 1, 1) := by decide +kernel
theorem dX8_atLeast_2 : decode cX8_atLeast 2 = .ok (.if_icmp .le 7, 3) := by decide +kernel
theorem dX8_atLeast_5 : decode cX8_atLeast 5 = .ok (.iload_n 0, 1) := by decide +kernel
theorem dX8_atLeast_6 : decode cX8_atLeast 6 = .ok (.goto 4, 3) := by decide +kernel
theorem dX8_atLeast_9 : decode cX8_atLeast 9 = .ok (.iload_n 1, 1) := by decide +kernel
theorem dX8_atLeast_10 : decode cX8_atLeast 10 = .ok (.ireturn, 1) := by decide +kernel
theorem dX8_home_0 : decode cX8_home 0 = .ok (.iload_n 2, 1) := by decide +kernel
theorem dX8_home_1 : decode cX8_home 1 = .ok (.ifCond .ne 7, 3) := by decide +kernel
theorem dX8_home_4 : decode cX8_home 4 = .ok (.iconst 0, 1) := by decide +kernel
theorem dX8_home_5 : decode cX8_home 5 = .ok (.goto 11, 3) := by decide +kernel
theorem dX8_home_8 : decode cX8_home 8 = .ok (.iload_n 2, 1) := by decide +kernel
theorem dX8_home_9 : decode cX8_home 9 = .ok (.iconst 1, 1) := by decide +kernel
theorem dX8_home_10 : decode cX8_home 10 = .ok (.isub, 1) := by decide +kernel
theorem dX8_home_11 : decode cX8_home 11 = .ok (.bipush 11, 2) := by decide +kernel
theorem dX8_home_13 : decode cX8_home 13 = .ok (.invokestatic 222, 3) := by decide +kernel
theorem dX8_home_16 : decode cX8_home 16 = .ok (.istore_n 3, 1) := by decide +kernel
theorem dX8_home_17 : decode cX8_home 17 = .ok (.aload_n 0, 1) := by decide +kernel
theorem dX8_home_18 : decode cX8_home 18 = .ok (.aload_n 0, 1) := by decide +kernel
theorem dX8_home_19 : decode cX8_home 19 = .ok (.getfield 69, 3) := by decide +kernel
theorem dX8_home_22 : decode cX8_home 22 = .ok (.ifCond .eq 21, 3) := by decide +kernel
theorem dX8_home_25 : decode cX8_home 25 = .ok (.aload_n 0, 1) := by decide +kernel
theorem dX8_home_26 : decode cX8_home 26 = .ok (.getfield 59, 3) := by decide +kernel
theorem dX8_home_29 : decode cX8_home 29 = .ok (.iload_n 1, 1) := by decide +kernel
theorem dX8_home_30 : decode cX8_home 30 = .ok (.iadd, 1) := by decide +kernel
theorem dX8_home_31 : decode cX8_home 31 = .ok (.iconst 1, 1) := by decide +kernel
theorem dX8_home_32 : decode cX8_home 32 = .ok (.isub, 1) := by decide +kernel
theorem dX8_home_33 : decode cX8_home 33 = .ok (.aload_n 0, 1) := by decide +kernel
theorem dX8_home_34 : decode cX8_home 34 = .ok (.getfield 62, 3) := by decide +kernel
theorem dX8_home_37 : decode cX8_home 37 = .ok (.invokestatic 222, 3) := by decide +kernel
theorem dX8_home_40 : decode cX8_home 40 = .ok (.goto 11, 3) := by decide +kernel
theorem dX8_home_43 : decode cX8_home 43 = .ok (.iload_n 1, 1) := by decide +kernel
theorem dX8_home_44 : decode cX8_home 44 = .ok (.iconst 1, 1) := by decide +kernel
theorem dX8_home_45 : decode cX8_home 45 = .ok (.isub, 1) := by decide +kernel
theorem dX8_home_46 : decode cX8_home 46 = .ok (.bipush 7, 2) := by decide +kernel
theorem dX8_home_48 : decode cX8_home 48 = .ok (.invokestatic 222, 3) := by decide +kernel
theorem dX8_home_51 : decode cX8_home 51 = .ok (.iload_n 3, 1) := by decide +kernel
theorem dX8_home_52 : decode cX8_home 52 = .ok (.invokevirtual 52, 3) := by decide +kernel
theorem dX8_home_55 : decode cX8_home 55 = .ok (.return_, 1) := by decide +kernel
theorem dX8_above_0 : decode cX8_above 0 = .ok (.aload_n 0, 1) := by decide +kernel
theorem dX8_above_1 : decode cX8_above 1 = .ok (.getfield 96, 3) := by decide +kernel
theorem dX8_above_4 : decode cX8_above 4 = .ok (.iload_n 1, 1) := by decide +kernel
theorem dX8_above_5 : decode cX8_above 5 = .ok (.isub, 1) := by decide +kernel
theorem dX8_above_6 : decode cX8_above 6 = .ok (.aload_n 0, 1) := by decide +kernel
theorem dX8_above_7 : decode cX8_above 7 = .ok (.getfield 96, 3) := by decide +kernel
theorem dX8_above_10 : decode cX8_above 10 = .ok (.aload_n 0, 1) := by decide +kernel
theorem dX8_above_11 : decode cX8_above 11 = .ok (.getfield 59, 3) := by decide +kernel
theorem dX8_above_14 : decode cX8_above 14 = .ok (.if_icmp .lt 10, 3) := by decide +kernel
theorem dX8_above_17 : decode cX8_above 17 = .ok (.aload_n 0, 1) := by decide +kernel
theorem dX8_above_18 : decode cX8_above 18 = .ok (.getfield 59, 3) := by decide +kernel
theorem dX8_above_21 : decode cX8_above 21 = .ok (.goto 4, 3) := by decide +kernel
theorem dX8_above_24 : decode cX8_above 24 = .ok (.iconst 0, 1) := by decide +kernel
theorem dX8_above_25 : decode cX8_above 25 = .ok (.invokestatic 226, 3) := by decide +kernel
theorem dX8_above_28 : decode cX8_above 28 = .ok (.ireturn, 1) := by decide +kernel
theorem dX8_below_0 : decode cX8_below 0 = .ok (.aload_n 0, 1) := by decide +kernel
theorem dX8_below_1 : decode cX8_below 1 = .ok (.getfield 96, 3) := by decide +kernel
theorem dX8_below_4 : decode cX8_below 4 = .ok (.iload_n 1, 1) := by decide +kernel
theorem dX8_below_5 : decode cX8_below 5 = .ok (.iadd, 1) := by decide +kernel
theorem dX8_below_6 : decode cX8_below 6 = .ok (.aload_n 0, 1) := by decide +kernel
theorem dX8_below_7 : decode cX8_below 7 = .ok (.getfield 96, 3) := by decide +kernel
theorem dX8_below_10 : decode cX8_below 10 = .ok (.aload_n 0, 1) := by decide +kernel
theorem dX8_below_11 : decode cX8_below 11 = .ok (.getfield 62, 3) := by decide +kernel
theorem dX8_below_14 : decode cX8_below 14 = .ok (.if_icmp .gt 10, 3) := by decide +kernel
theorem dX8_below_17 : decode cX8_below 17 = .ok (.aload_n 0, 1) := by decide +kernel
theorem dX8_below_18 : decode cX8_below 18 = .ok (.getfield 62, 3) := by decide +kernel
theorem dX8_below_21 : decode cX8_below 21 = .ok (.goto 5, 3) := by decide +kernel
theorem dX8_below_24 : decode cX8_below 24 = .ok (.bipush 7, 2) := by decide +kernel
theorem dX8_below_26 : decode cX8_below 26 = .ok (.invokestatic 222, 3) := by decide +kernel
theorem dX8_below_29 : decode cX8_below 29 = .ok (.ireturn, 1) := by decide +kernel
theorem dX8_doIt_0 : decode cX8_doIt 0 = .ok (.iload_n 1, 1) := by decide +kernel
theorem dX8_doIt_1 : decode cX8_doIt 1 = .ok (.tableswitch 320 65 102 #[167, 183, 199, 221, 242, 255, 268, 306, 320, 320, 320, 320, 320, 320, 320, 320, 320, 320, 320, 320, 320, 320, 320, 320, 320, 320, 320, 320, 320, 320, 320, 320, 320, 320, 320, 287, 320, 306], 167) := by decide +kernel
theorem dX8_doIt_168 : decode cX8_doIt 168 = .ok (.aload_n 0, 1) := by decide +kernel
theorem dX8_doIt_169 : decode cX8_doIt 169 = .ok (.aload_n 0, 1) := by decide +kernel
theorem dX8_doIt_170 : decode cX8_doIt 170 = .ok (.iload_n 2, 1) := by decide +kernel
theorem dX8_doIt_171 : decode cX8_doIt 171 = .ok (.invokevirtual 229, 3) := by decide +kernel
theorem dX8_doIt_174 : decode cX8_doIt 174 = .ok (.aload_n 0, 1) := by decide +kernel
theorem dX8_doIt_175 : decode cX8_doIt 175 = .ok (.getfield 99, 3) := by decide +kernel
theorem dX8_doIt_178 : decode cX8_doIt 178 = .ok (.invokevirtual 52, 3) := by decide +kernel
theorem dX8_doIt_181 : decode cX8_doIt 181 = .ok (.goto 146, 3) := by decide +kernel
theorem dX8_doIt_184 : decode cX8_doIt 184 = .ok (.aload_n 0, 1) := by decide +kernel
theorem dX8_doIt_185 : decode cX8_doIt 185 = .ok (.aload_n 0, 1) := by decide +kernel
theorem dX8_doIt_186 : decode cX8_doIt 186 = .ok (.iload_n 2, 1) := by decide +kernel
theorem dX8_doIt_187 : decode cX8_doIt 187 = .ok (.invokevirtual 233, 3) := by decide +kernel
theorem dX8_doIt_190 : decode cX8_doIt 190 = .ok (.aload_n 0, 1) := by decide +kernel
theorem dX8_doIt_191 : decode cX8_doIt 191 = .ok (.getfield 99, 3) := by decide +kernel
theorem dX8_doIt_194 : decode cX8_doIt 194 = .ok (.invokevirtual 52, 3) := by decide +kernel
theorem dX8_doIt_197 : decode cX8_doIt 197 = .ok (.goto 130, 3) := by decide +kernel
theorem dX8_doIt_200 : decode cX8_doIt 200 = .ok (.aload_n 0, 1) := by decide +kernel
theorem dX8_doIt_201 : decode cX8_doIt 201 = .ok (.aload_n 0, 1) := by decide +kernel
theorem dX8_doIt_202 : decode cX8_doIt 202 = .ok (.getfield 96, 3) := by decide +kernel
theorem dX8_doIt_205 : decode cX8_doIt 205 = .ok (.aload_n 0, 1) := by decide +kernel
theorem dX8_doIt_206 : decode cX8_doIt 206 = .ok (.getfield 99, 3) := by decide +kernel
theorem dX8_doIt_209 : decode cX8_doIt 209 = .ok (.iload_n 2, 1) := by decide +kernel
theorem dX8_doIt_210 : decode cX8_doIt 210 = .ok (.iadd, 1) := by decide +kernel
theorem dX8_doIt_211 : decode cX8_doIt 211 = .ok (.bipush 11, 2) := by decide +kernel
theorem dX8_doIt_213 : decode cX8_doIt 213 = .ok (.invokestatic 222, 3) := by decide +kernel
theorem dX8_doIt_216 : decode cX8_doIt 216 = .ok (.invokevirtual 52, 3) := by decide +kernel
theorem dX8_doIt_219 : decode cX8_doIt 219 = .ok (.goto 108, 3) := by decide +kernel
theorem dX8_doIt_222 : decode cX8_doIt 222 = .ok (.aload_n 0, 1) := by decide +kernel
theorem dX8_doIt_223 : decode cX8_doIt 223 = .ok (.aload_n 0, 1) := by decide +kernel
theorem dX8_doIt_224 : decode cX8_doIt 224 = .ok (.getfield 96, 3) := by decide +kernel
theorem dX8_doIt_227 : decode cX8_doIt 227 = .ok (.aload_n 0, 1) := by decide +kernel
theorem dX8_doIt_228 : decode cX8_doIt 228 = .ok (.getfield 99, 3) := by decide +kernel
theorem dX8_doIt_231 : decode cX8_doIt 231 = .ok (.iload_n 2, 1) := by decide +kernel
theorem dX8_doIt_232 : decode cX8_doIt 232 = .ok (.isub, 1) := by decide +kernel
theorem dX8_doIt_233 : decode cX8_doIt 233 = .ok (.iconst 0, 1) := by decide +kernel
theorem dX8_doIt_234 : decode cX8_doIt 234 = .ok (.invokestatic 226, 3) := by decide +kernel
theorem dX8_doIt_237 : decode cX8_doIt 237 = .ok (.invokevirtual 52, 3) := by decide +kernel
theorem dX8_doIt_240 : decode cX8_doIt 240 = .ok (.goto 87, 3) := by decide +kernel
theorem dX8_doIt_243 : decode cX8_doIt 243 = .ok (.aload_n 0, 1) := by decide +kernel
theorem dX8_doIt_244 : decode cX8_doIt 244 = .ok (.aload_n 0, 1) := by decide +kernel
theorem dX8_doIt_245 : decode cX8_doIt 245 = .ok (.iload_n 2, 1) := by decide +kernel
theorem dX8_doIt_246 : decode cX8_doIt 246 = .ok (.invokevirtual 233, 3) := by decide +kernel
theorem dX8_doIt_249 : decode cX8_doIt 249 = .ok (.iconst 0, 1) := by decide +kernel
theorem dX8_doIt_250 : decode cX8_doIt 250 = .ok (.invokevirtual 52, 3) := by decide +kernel
theorem dX8_doIt_253 : decode cX8_doIt 253 = .ok (.goto 74, 3) := by decide +kernel
theorem dX8_doIt_256 : decode cX8_doIt 256 = .ok (.aload_n 0, 1) := by decide +kernel
theorem dX8_doIt_257 : decode cX8_doIt 257 = .ok (.aload_n 0, 1) := by decide +kernel
theorem dX8_doIt_258 : decode cX8_doIt 258 = .ok (.iload_n 2, 1) := by decide +kernel
theorem dX8_doIt_259 : decode cX8_doIt 259 = .ok (.invokevirtual 229, 3) := by decide +kernel
theorem dX8_doIt_262 : decode cX8_doIt 262 = .ok (.iconst 0, 1) := by decide +kernel
theorem dX8_doIt_263 : decode cX8_doIt 263 = .ok (.invokevirtual 52, 3) := by decide +kernel
theorem dX8_doIt_266 : decode cX8_doIt 266 = .ok (.goto 61, 3) := by decide +kernel
theorem dX8_doIt_269 : decode cX8_doIt 269 = .ok (.aload_n 0, 1) := by decide +kernel
theorem dX8_doIt_270 : decode cX8_doIt 270 = .ok (.aload_n 0, 1) := by decide +kernel
theorem dX8_doIt_271 : decode cX8_doIt 271 = .ok (.getfield 96, 3) := by decide +kernel
theorem dX8_doIt_274 : decode cX8_doIt 274 = .ok (.iload_n 2, 1) := by decide +kernel
theorem dX8_doIt_275 : decode cX8_doIt 275 = .ok (.iconst 1, 1) := by decide +kernel
theorem dX8_doIt_276 : decode cX8_doIt 276 = .ok (.isub, 1) := by decide +kernel
theorem dX8_doIt_277 : decode cX8_doIt 277 = .ok (.bipush 11, 2) := by decide +kernel
theorem dX8_doIt_279 : decode cX8_doIt 279 = .ok (.invokestatic 222, 3) := by decide +kernel
theorem dX8_doIt_282 : decode cX8_doIt 282 = .ok (.invokevirtual 52, 3) := by decide +kernel
theorem dX8_doIt_285 : decode cX8_doIt 285 = .ok (.goto 42, 3) := by decide +kernel
theorem dX8_doIt_288 : decode cX8_doIt 288 = .ok (.aload_n 0, 1) := by decide +kernel
theorem dX8_doIt_289 : decode cX8_doIt 289 = .ok (.iload_n 2, 1) := by decide +kernel
theorem dX8_doIt_290 : decode cX8_doIt 290 = .ok (.iconst 1, 1) := by decide +kernel
theorem dX8_doIt_291 : decode cX8_doIt 291 = .ok (.isub, 1) := by decide +kernel
theorem dX8_doIt_292 : decode cX8_doIt 292 = .ok (.bipush 7, 2) := by decide +kernel
theorem dX8_doIt_294 : decode cX8_doIt 294 = .ok (.invokestatic 222, 3) := by decide +kernel
theorem dX8_doIt_297 : decode cX8_doIt 297 = .ok (.aload_n 0, 1) := by decide +kernel
theorem dX8_doIt_298 : decode cX8_doIt 298 = .ok (.getfield 99, 3) := by decide +kernel
theorem dX8_doIt_301 : decode cX8_doIt 301 = .ok (.invokevirtual 52, 3) := by decide +kernel
theorem dX8_doIt_304 : decode cX8_doIt 304 = .ok (.goto 23, 3) := by decide +kernel
theorem dX8_doIt_307 : decode cX8_doIt 307 = .ok (.aload_n 0, 1) := by decide +kernel
theorem dX8_doIt_308 : decode cX8_doIt 308 = .ok (.iload_n 2, 1) := by decide +kernel
theorem dX8_doIt_309 : decode cX8_doIt 309 = .ok (.aload_n 0, 1) := by decide +kernel
theorem dX8_doIt_310 : decode cX8_doIt 310 = .ok (.getfield 35, 3) := by decide +kernel
theorem dX8_doIt_313 : decode cX8_doIt 313 = .ok (.iconst 1, 1) := by decide +kernel
theorem dX8_doIt_314 : decode cX8_doIt 314 = .ok (.iaload, 1) := by decide +kernel
theorem dX8_doIt_315 : decode cX8_doIt 315 = .ok (.invokevirtual 216, 3) := by decide +kernel
theorem dX8_doIt_318 : decode cX8_doIt 318 = .ok (.goto 9, 3) := by decide +kernel
theorem dX8_doIt_321 : decode cX8_doIt 321 = .ok (.aload_n 0, 1) := by decide +kernel
theorem dX8_doIt_322 : decode cX8_doIt 322 = .ok (.iload_n 1, 1) := by decide +kernel
theorem dX8_doIt_323 : decode cX8_doIt 323 = .ok (.iload_n 2, 1) := by decide +kernel
theorem dX8_doIt_324 : decode cX8_doIt 324 = .ok (.invokevirtual 236, 3) := by decide +kernel
theorem dX8_doIt_327 : decode cX8_doIt 327 = .ok (.return_, 1) := by decide +kernel
theorem dX8_change_0 : decode cX8_change 0 = .ok (.bipush 12, 2) := by decide +kernel
theorem dX8_change_2 : decode cX8_change 2 = .ok (.aload_n 0, 1) := by decide +kernel
theorem dX8_change_3 : decode cX8_change 3 = .ok (.getfield 96, 3) := by decide +kernel
theorem dX8_change_6 : decode cX8_change 6 = .ok (.imul, 1) := by decide +kernel
theorem dX8_change_7 : decode cX8_change 7 = .ok (.aload_n 0, 1) := by decide +kernel
theorem dX8_change_8 : decode cX8_change 8 = .ok (.getfield 99, 3) := by decide +kernel
theorem dX8_change_11 : decode cX8_change 11 = .ok (.iadd, 1) := by decide +kernel
theorem dX8_change_12 : decode cX8_change 12 = .ok (.istore_n 3, 1) := by decide +kernel
theorem dX8_change_13 : decode cX8_change 13 = .ok (.aload_n 0, 1) := by decide +kernel
theorem dX8_change_14 : decode cX8_change 14 = .ok (.getfield 96, 3) := by decide +kernel
theorem dX8_change_17 : decode cX8_change 17 = .ok (.aload_n 0, 1) := by decide +kernel
theorem dX8_change_18 : decode cX8_change 18 = .ok (.getfield 59, 3) := by decide +kernel
theorem dX8_change_21 : decode cX8_change 21 = .ok (.if_icmp .lt 18, 3) := by decide +kernel
theorem dX8_change_24 : decode cX8_change 24 = .ok (.aload_n 0, 1) := by decide +kernel
theorem dX8_change_25 : decode cX8_change 25 = .ok (.getfield 96, 3) := by decide +kernel
theorem dX8_change_28 : decode cX8_change 28 = .ok (.aload_n 0, 1) := by decide +kernel
theorem dX8_change_29 : decode cX8_change 29 = .ok (.getfield 62, 3) := by decide +kernel
theorem dX8_change_32 : decode cX8_change 32 = .ok (.if_icmp .gt 7, 3) := by decide +kernel
theorem dX8_change_35 : decode cX8_change 35 = .ok (.iconst 1, 1) := by decide +kernel
theorem dX8_change_36 : decode cX8_change 36 = .ok (.goto 4, 3) := by decide +kernel
theorem dX8_change_39 : decode cX8_change 39 = .ok (.iconst 0, 1) := by decide +kernel
theorem dX8_change_40 : decode cX8_change 40 = .ok (.istore 4, 2) := by decide +kernel
theorem dX8_change_42 : decode cX8_change 42 = .ok (.aload_n 0, 1) := by decide +kernel
theorem dX8_change_43 : decode cX8_change 43 = .ok (.getfield 35, 3) := by decide +kernel
theorem dX8_change_46 : decode cX8_change 46 = .ok (.iconst 0, 1) := by decide +kernel
theorem dX8_change_47 : decode cX8_change 47 = .ok (.iaload, 1) := by decide +kernel
theorem dX8_change_48 : decode cX8_change 48 = .ok (.istore 5, 2) := by decide +kernel
theorem dX8_change_50 : decode cX8_change 50 = .ok (.iload_n 1, 1) := by decide +kernel
theorem dX8_change_51 : decode cX8_change 51 = .ok (.tableswitch 304 64 88 #[227, 304, 304, 304, 304, 304, 304, 304, 304, 304, 113, 148, 244, 262, 304, 304, 236, 304, 304, 279, 291, 304, 304, 304, 199], 113) := by decide +kernel
theorem dX8_change_164 : decode cX8_change 164 = .ok (.iload 5, 2) := by decide +kernel
theorem dX8_change_166 : decode cX8_change 166 = .ok (.iconst 3, 1) := by decide +kernel
theorem dX8_change_167 : decode cX8_change 167 = .ok (.if_icmp .ge 194, 3) := by decide +kernel
theorem dX8_change_170 : decode cX8_change 170 = .ok (.aload_n 0, 1) := by decide +kernel
theorem dX8_change_171 : decode cX8_change 171 = .ok (.iload 5, 2) := by decide +kernel
theorem dX8_change_173 : decode cX8_change 173 = .ok (.ifCond .ne 7, 3) := by decide +kernel
theorem dX8_change_176 : decode cX8_change 176 = .ok (.iload_n 3, 1) := by decide +kernel
theorem dX8_change_177 : decode cX8_change 177 = .ok (.goto 4, 3) := by decide +kernel
theorem dX8_change_180 : decode cX8_change 180 = .ok (.iconst 0, 1) := by decide +kernel
theorem dX8_change_181 : decode cX8_change 181 = .ok (.iload 5, 2) := by decide +kernel
theorem dX8_change_183 : decode cX8_change 183 = .ok (.iconst 1, 1) := by decide +kernel
theorem dX8_change_184 : decode cX8_change 184 = .ok (.if_icmp .ne 7, 3) := by decide +kernel
theorem dX8_change_187 : decode cX8_change 187 = .ok (.iload_n 3, 1) := by decide +kernel
theorem dX8_change_188 : decode cX8_change 188 = .ok (.goto 5, 3) := by decide +kernel
theorem dX8_change_191 : decode cX8_change 191 = .ok (.bipush 95, 2) := by decide +kernel
theorem dX8_change_193 : decode cX8_change 193 = .ok (.invokevirtual 219, 3) := by decide +kernel
theorem dX8_change_196 : decode cX8_change 196 = .ok (.goto 165, 3) := by decide +kernel
theorem dX8_change_199 : decode cX8_change 199 = .ok (.iload 5, 2) := by decide +kernel
theorem dX8_change_201 : decode cX8_change 201 = .ok (.iconst 3, 1) := by decide +kernel
theorem dX8_change_202 : decode cX8_change 202 = .ok (.if_icmp .ge 159, 3) := by decide +kernel
theorem dX8_change_205 : decode cX8_change 205 = .ok (.aload_n 0, 1) := by decide +kernel
theorem dX8_change_206 : decode cX8_change 206 = .ok (.iload 5, 2) := by decide +kernel
theorem dX8_change_208 : decode cX8_change 208 = .ok (.ifCond .ne 7, 3) := by decide +kernel
theorem dX8_change_211 : decode cX8_change 211 = .ok (.iload_n 3, 1) := by decide +kernel
theorem dX8_change_212 : decode cX8_change 212 = .ok (.goto 10, 3) := by decide +kernel
theorem dX8_change_215 : decode cX8_change 215 = .ok (.bipush 12, 2) := by decide +kernel
theorem dX8_change_217 : decode cX8_change 217 = .ok (.aload_n 0, 1) := by decide +kernel
theorem dX8_change_218 : decode cX8_change 218 = .ok (.getfield 96, 3) := by decide +kernel
theorem dX8_change_221 : decode cX8_change 221 = .ok (.imul, 1) := by decide +kernel
theorem dX8_change_222 : decode cX8_change 222 = .ok (.iload 5, 2) := by decide +kernel
theorem dX8_change_224 : decode cX8_change 224 = .ok (.iconst 1, 1) := by decide +kernel
theorem dX8_change_225 : decode cX8_change 225 = .ok (.if_icmp .ne 7, 3) := by decide +kernel
theorem dX8_change_228 : decode cX8_change 228 = .ok (.iload_n 3, 1) := by decide +kernel
theorem dX8_change_229 : decode cX8_change 229 = .ok (.goto 15, 3) := by decide +kernel
theorem dX8_change_232 : decode cX8_change 232 = .ok (.bipush 12, 2) := by decide +kernel
theorem dX8_change_234 : decode cX8_change 234 = .ok (.aload_n 0, 1) := by decide +kernel
theorem dX8_change_235 : decode cX8_change 235 = .ok (.getfield 96, 3) := by decide +kernel
theorem dX8_change_238 : decode cX8_change 238 = .ok (.imul, 1) := by decide +kernel
theorem dX8_change_239 : decode cX8_change 239 = .ok (.bipush 12, 2) := by decide +kernel
theorem dX8_change_241 : decode cX8_change 241 = .ok (.iadd, 1) := by decide +kernel
theorem dX8_change_242 : decode cX8_change 242 = .ok (.iconst 1, 1) := by decide +kernel
theorem dX8_change_243 : decode cX8_change 243 = .ok (.isub, 1) := by decide +kernel
theorem dX8_change_244 : decode cX8_change 244 = .ok (.invokevirtual 219, 3) := by decide +kernel
theorem dX8_change_247 : decode cX8_change 247 = .ok (.goto 114, 3) := by decide +kernel
theorem dX8_change_250 : decode cX8_change 250 = .ok (.aload_n 0, 1) := by decide +kernel
theorem dX8_change_251 : decode cX8_change 251 = .ok (.iload_n 3, 1) := by decide +kernel
theorem dX8_change_252 : decode cX8_change 252 = .ok (.iload_n 3, 1) := by decide +kernel
theorem dX8_change_253 : decode cX8_change 253 = .ok (.iload_n 2, 1) := by decide +kernel
theorem dX8_change_254 : decode cX8_change 254 = .ok (.iadd, 1) := by decide +kernel
theorem dX8_change_255 : decode cX8_change 255 = .ok (.iconst 1, 1) := by decide +kernel
theorem dX8_change_256 : decode cX8_change 256 = .ok (.isub, 1) := by decide +kernel
theorem dX8_change_257 : decode cX8_change 257 = .ok (.bipush 12, 2) := by decide +kernel
theorem dX8_change_259 : decode cX8_change 259 = .ok (.aload_n 0, 1) := by decide +kernel
theorem dX8_change_260 : decode cX8_change 260 = .ok (.getfield 96, 3) := by decide +kernel
theorem dX8_change_263 : decode cX8_change 263 = .ok (.imul, 1) := by decide +kernel
theorem dX8_change_264 : decode cX8_change 264 = .ok (.bipush 12, 2) := by decide +kernel
theorem dX8_change_266 : decode cX8_change 266 = .ok (.iadd, 1) := by decide +kernel
theorem dX8_change_267 : decode cX8_change 267 = .ok (.iconst 1, 1) := by decide +kernel
theorem dX8_change_268 : decode cX8_change 268 = .ok (.isub, 1) := by decide +kernel
theorem dX8_change_269 : decode cX8_change 269 = .ok (.invokestatic 222, 3) := by decide +kernel
theorem dX8_change_272 : decode cX8_change 272 = .ok (.invokevirtual 219, 3) := by decide +kernel
theorem dX8_change_275 : decode cX8_change 275 = .ok (.goto 86, 3) := by decide +kernel
theorem dX8_change_278 : decode cX8_change 278 = .ok (.aload_n 0, 1) := by decide +kernel
theorem dX8_change_279 : decode cX8_change 279 = .ok (.iload_n 2, 1) := by decide +kernel
theorem dX8_change_280 : decode cX8_change 280 = .ok (.ineg, 1) := by decide +kernel
theorem dX8_change_281 : decode cX8_change 281 = .ok (.invokevirtual 151, 3) := by decide +kernel
theorem dX8_change_284 : decode cX8_change 284 = .ok (.goto 77, 3) := by decide +kernel
theorem dX8_change_287 : decode cX8_change 287 = .ok (.aload_n 0, 1) := by decide +kernel
theorem dX8_change_288 : decode cX8_change 288 = .ok (.iload_n 2, 1) := by decide +kernel
theorem dX8_change_289 : decode cX8_change 289 = .ok (.invokevirtual 151, 3) := by decide +kernel
theorem dX8_change_292 : decode cX8_change 292 = .ok (.goto 69, 3) := by decide +kernel
theorem dX8_change_295 : decode cX8_change 295 = .ok (.iload 4, 2) := by decide +kernel
theorem dX8_change_297 : decode cX8_change 297 = .ok (.ifCond .eq 64, 3) := by decide +kernel
theorem dX8_change_300 : decode cX8_change 300 = .ok (.aload_n 0, 1) := by decide +kernel
theorem dX8_change_301 : decode cX8_change 301 = .ok (.aload_n 0, 1) := by decide +kernel
theorem dX8_change_302 : decode cX8_change 302 = .ok (.getfield 96, 3) := by decide +kernel
theorem dX8_change_305 : decode cX8_change 305 = .ok (.iload_n 2, 1) := by decide +kernel
theorem dX8_change_306 : decode cX8_change 306 = .ok (.ineg, 1) := by decide +kernel
theorem dX8_change_307 : decode cX8_change 307 = .ok (.invokevirtual 145, 3) := by decide +kernel
theorem dX8_change_310 : decode cX8_change 310 = .ok (.goto 51, 3) := by decide +kernel
theorem dX8_change_313 : decode cX8_change 313 = .ok (.iload 4, 2) := by decide +kernel
theorem dX8_change_315 : decode cX8_change 315 = .ok (.ifCond .eq 46, 3) := by decide +kernel
theorem dX8_change_318 : decode cX8_change 318 = .ok (.aload_n 0, 1) := by decide +kernel
theorem dX8_change_319 : decode cX8_change 319 = .ok (.aload_n 0, 1) := by decide +kernel
theorem dX8_change_320 : decode cX8_change 320 = .ok (.getfield 96, 3) := by decide +kernel
theorem dX8_change_323 : decode cX8_change 323 = .ok (.iload_n 2, 1) := by decide +kernel
theorem dX8_change_324 : decode cX8_change 324 = .ok (.invokevirtual 145, 3) := by decide +kernel
theorem dX8_change_327 : decode cX8_change 327 = .ok (.goto 34, 3) := by decide +kernel
theorem dX8_change_330 : decode cX8_change 330 = .ok (.aload_n 0, 1) := by decide +kernel
theorem dX8_change_331 : decode cX8_change 331 = .ok (.aload_n 0, 1) := by decide +kernel
theorem dX8_change_332 : decode cX8_change 332 = .ok (.getfield 59, 3) := by decide +kernel
theorem dX8_change_335 : decode cX8_change 335 = .ok (.iload_n 2, 1) := by decide +kernel
theorem dX8_change_336 : decode cX8_change 336 = .ok (.invokevirtual 145, 3) := by decide +kernel
theorem dX8_change_339 : decode cX8_change 339 = .ok (.goto 22, 3) := by decide +kernel
theorem dX8_change_342 : decode cX8_change 342 = .ok (.aload_n 0, 1) := by decide +kernel
theorem dX8_change_343 : decode cX8_change 343 = .ok (.aload_n 0, 1) := by decide +kernel
theorem dX8_change_344 : decode cX8_change 344 = .ok (.getfield 59, 3) := by decide +kernel
theorem dX8_change_347 : decode cX8_change 347 = .ok (.iload_n 2, 1) := by decide +kernel
theorem dX8_change_348 : decode cX8_change 348 = .ok (.ineg, 1) := by decide +kernel
theorem dX8_change_349 : decode cX8_change 349 = .ok (.invokevirtual 145, 3) := by decide +kernel
theorem dX8_change_352 : decode cX8_change 352 = .ok (.goto 9, 3) := by decide +kernel
theorem dX8_change_355 : decode cX8_change 355 = .ok (.aload_n 0, 1) := by decide +kernel
theorem dX8_change_356 : decode cX8_change 356 = .ok (.iload_n 1, 1) := by decide +kernel
theorem dX8_change_357 : decode cX8_change 357 = .ok (.iload_n 2, 1) := by decide +kernel
theorem dX8_change_358 : decode cX8_change 358 = .ok (.invokevirtual 239, 3) := by decide +kernel
theorem dX8_change_361 : decode cX8_change 361 = .ok (.return_, 1) := by decide +kernel
theorem dX8_set_0 : decode cX8_set 0 = .ok (.iload_n 1, 1) := by decide +kernel
theorem dX8_set_1 : decode cX8_set 1 = .ok (.tableswitch 359 98 117 #[95, 359, 359, 359, 359, 244, 299, 359, 359, 359, 299, 132, 346, 359, 359, 359, 173, 230, 359, 237], 95) := by decide +kernel
theorem dX8_set_96 : decode cX8_set 96 = .ok (.iconst 0, 1) := by decide +kernel
theorem dX8_set_97 : decode cX8_set 97 = .ok (.istore_n 3, 1) := by decide +kernel
theorem dX8_set_98 : decode cX8_set 98 = .ok (.iload_n 3, 1) := by decide +kernel
theorem dX8_set_99 : decode cX8_set 99 = .ok (.iload_n 2, 1) := by decide +kernel
theorem dX8_set_100 : decode cX8_set 100 = .ok (.if_icmp .ge 30, 3) := by decide +kernel
theorem dX8_set_103 : decode cX8_set 103 = .ok (.iload_n 3, 1) := by decide +kernel
theorem dX8_set_104 : decode cX8_set 104 = .ok (.bipush 24, 2) := by decide +kernel
theorem dX8_set_106 : decode cX8_set 106 = .ok (.if_icmp .ge 24, 3) := by decide +kernel
theorem dX8_set_109 : decode cX8_set 109 = .ok (.aload_n 0, 1) := by decide +kernel
theorem dX8_set_110 : decode cX8_set 110 = .ok (.getfield 78, 3) := by decide +kernel
theorem dX8_set_113 : decode cX8_set 113 = .ok (.ifCond .lt 17, 3) := by decide +kernel
theorem dX8_set_116 : decode cX8_set 116 = .ok (.aload_n 0, 1) := by decide +kernel
theorem dX8_set_117 : decode cX8_set 117 = .ok (.aload_n 0, 1) := by decide +kernel
theorem dX8_set_118 : decode cX8_set 118 = .ok (.getfield 78, 3) := by decide +kernel
theorem dX8_set_121 : decode cX8_set 121 = .ok (.invokevirtual 161, 3) := by decide +kernel
theorem dX8_set_124 : decode cX8_set 124 = .ok (.iinc 3 1, 3) := by decide +kernel
theorem dX8_set_127 : decode cX8_set 127 = .ok (.goto (-29), 3) := by decide +kernel
theorem dX8_set_130 : decode cX8_set 130 = .ok (.goto 230, 3) := by decide +kernel
theorem dX8_set_133 : decode cX8_set 133 = .ok (.aload_n 0, 1) := by decide +kernel
theorem dX8_set_134 : decode cX8_set 134 = .ok (.getfield 195, 3) := by decide +kernel
theorem dX8_set_137 : decode cX8_set 137 = .ok (.ifCond .ne 8, 3) := by decide +kernel
theorem dX8_set_140 : decode cX8_set 140 = .ok (.aload_n 0, 1) := by decide +kernel
theorem dX8_set_141 : decode cX8_set 141 = .ok (.iconst 0, 1) := by decide +kernel
theorem dX8_set_142 : decode cX8_set 142 = .ok (.invokevirtual 56, 3) := by decide +kernel
theorem dX8_set_145 : decode cX8_set 145 = .ok (.iconst 0, 1) := by decide +kernel
theorem dX8_set_146 : decode cX8_set 146 = .ok (.istore_n 3, 1) := by decide +kernel
theorem dX8_set_147 : decode cX8_set 147 = .ok (.iload_n 3, 1) := by decide +kernel
theorem dX8_set_148 : decode cX8_set 148 = .ok (.aload_n 0, 1) := by decide +kernel
theorem dX8_set_149 : decode cX8_set 149 = .ok (.invokevirtual 213, 3) := by decide +kernel
theorem dX8_set_152 : decode cX8_set 152 = .ok (.if_icmp .ge 19, 3) := by decide +kernel
theorem dX8_set_155 : decode cX8_set 155 = .ok (.aload_n 0, 1) := by decide +kernel
theorem dX8_set_156 : decode cX8_set 156 = .ok (.aload_n 0, 1) := by decide +kernel
theorem dX8_set_157 : decode cX8_set 157 = .ok (.getfield 35, 3) := by decide +kernel
theorem dX8_set_160 : decode cX8_set 160 = .ok (.iload_n 3, 1) := by decide +kernel
theorem dX8_set_161 : decode cX8_set 161 = .ok (.iaload, 1) := by decide +kernel
theorem dX8_set_162 : decode cX8_set 162 = .ok (.invokevirtual 242, 3) := by decide +kernel
theorem dX8_set_165 : decode cX8_set 165 = .ok (.iinc 3 1, 3) := by decide +kernel
theorem dX8_set_168 : decode cX8_set 168 = .ok (.goto (-21), 3) := by decide +kernel
theorem dX8_set_171 : decode cX8_set 171 = .ok (.goto 189, 3) := by decide +kernel
theorem dX8_set_174 : decode cX8_set 174 = .ok (.aload_n 0, 1) := by decide +kernel
theorem dX8_set_175 : decode cX8_set 175 = .ok (.getfield 35, 3) := by decide +kernel
theorem dX8_set_178 : decode cX8_set 178 = .ok (.iconst 1, 1) := by decide +kernel
theorem dX8_set_179 : decode cX8_set 179 = .ok (.iaload, 1) := by decide +kernel
theorem dX8_set_180 : decode cX8_set 180 = .ok (.ifCond .ne 8, 3) := by decide +kernel
theorem dX8_set_183 : decode cX8_set 183 = .ok (.bipush 7, 2) := by decide +kernel
theorem dX8_set_185 : decode cX8_set 185 = .ok (.goto 11, 3) := by decide +kernel
theorem dX8_set_188 : decode cX8_set 188 = .ok (.aload_n 0, 1) := by decide +kernel
theorem dX8_set_189 : decode cX8_set 189 = .ok (.getfield 35, 3) := by decide +kernel
theorem dX8_set_192 : decode cX8_set 192 = .ok (.iconst 1, 1) := by decide +kernel
theorem dX8_set_193 : decode cX8_set 193 = .ok (.iaload, 1) := by decide +kernel
theorem dX8_set_194 : decode cX8_set 194 = .ok (.iconst 1, 1) := by decide +kernel
theorem dX8_set_195 : decode cX8_set 195 = .ok (.isub, 1) := by decide +kernel
theorem dX8_set_196 : decode cX8_set 196 = .ok (.istore_n 3, 1) := by decide +kernel
theorem dX8_set_197 : decode cX8_set 197 = .ok (.iload_n 2, 1) := by decide +kernel
theorem dX8_set_198 : decode cX8_set 198 = .ok (.iconst 1, 1) := by decide +kernel
theorem dX8_set_199 : decode cX8_set 199 = .ok (.isub, 1) := by decide +kernel
theorem dX8_set_200 : decode cX8_set 200 = .ok (.iload_n 3, 1) := by decide +kernel
theorem dX8_set_201 : decode cX8_set 201 = .ok (.if_icmp .ge 159, 3) := by decide +kernel
theorem dX8_set_204 : decode cX8_set 204 = .ok (.iload_n 3, 1) := by decide +kernel
theorem dX8_set_205 : decode cX8_set 205 = .ok (.bipush 8, 2) := by decide +kernel
theorem dX8_set_207 : decode cX8_set 207 = .ok (.if_icmp .ge 153, 3) := by decide +kernel
theorem dX8_set_210 : decode cX8_set 210 = .ok (.aload_n 0, 1) := by decide +kernel
theorem dX8_set_211 : decode cX8_set 211 = .ok (.iload_n 2, 1) := by decide +kernel
theorem dX8_set_212 : decode cX8_set 212 = .ok (.iconst 1, 1) := by decide +kernel
theorem dX8_set_213 : decode cX8_set 213 = .ok (.isub, 1) := by decide +kernel
theorem dX8_set_214 : decode cX8_set 214 = .ok (.putfield 59, 3) := by decide +kernel
theorem dX8_set_217 : decode cX8_set 217 = .ok (.aload_n 0, 1) := by decide +kernel
theorem dX8_set_218 : decode cX8_set 218 = .ok (.iload_n 3, 1) := by decide +kernel
theorem dX8_set_219 : decode cX8_set 219 = .ok (.putfield 62, 3) := by decide +kernel
theorem dX8_set_222 : decode cX8_set 222 = .ok (.aload_n 0, 1) := by decide +kernel
theorem dX8_set_223 : decode cX8_set 223 = .ok (.iconst 1, 1) := by decide +kernel
theorem dX8_set_224 : decode cX8_set 224 = .ok (.iconst 0, 1) := by decide +kernel
theorem dX8_set_225 : decode cX8_set 225 = .ok (.invokevirtual 216, 3) := by decide +kernel
theorem dX8_set_228 : decode cX8_set 228 = .ok (.goto 132, 3) := by decide +kernel
theorem dX8_set_231 : decode cX8_set 231 = .ok (.aload_n 0, 1) := by decide +kernel
theorem dX8_set_232 : decode cX8_set 232 = .ok (.invokevirtual 75, 3) := by decide +kernel
theorem dX8_set_235 : decode cX8_set 235 = .ok (.goto 125, 3) := by decide +kernel
theorem dX8_set_238 : decode cX8_set 238 = .ok (.aload_n 0, 1) := by decide +kernel
theorem dX8_set_239 : decode cX8_set 239 = .ok (.invokevirtual 201, 3) := by decide +kernel
theorem dX8_set_242 : decode cX8_set 242 = .ok (.goto 118, 3) := by decide +kernel
theorem dX8_set_245 : decode cX8_set 245 = .ok (.iconst 0, 1) := by decide +kernel
theorem dX8_set_246 : decode cX8_set 246 = .ok (.istore 4, 2) := by decide +kernel
theorem dX8_set_248 : decode cX8_set 248 = .ok (.iload 4, 2) := by decide +kernel
theorem dX8_set_250 : decode cX8_set 250 = .ok (.bipush 12, 2) := by decide +kernel
theorem dX8_set_252 : decode cX8_set 252 = .ok (.if_icmp .ge 45, 3) := by decide +kernel
theorem dX8_set_255 : decode cX8_set 255 = .ok (.aload_n 0, 1) := by decide +kernel
theorem dX8_set_256 : decode cX8_set 256 = .ok (.getfield 35, 3) := by decide +kernel
theorem dX8_set_259 : decode cX8_set 259 = .ok (.iconst 0, 1) := by decide +kernel
theorem dX8_set_260 : decode cX8_set 260 = .ok (.iaload, 1) := by decide +kernel
theorem dX8_set_261 : decode cX8_set 261 = .ok (.iconst 3, 1) := by decide +kernel
theorem dX8_set_262 : decode cX8_set 262 = .ok (.if_icmp .eq 21, 3) := by decide +kernel
theorem dX8_set_265 : decode cX8_set 265 = .ok (.aload_n 0, 1) := by decide +kernel
theorem dX8_set_266 : decode cX8_set 266 = .ok (.getfield 35, 3) := by decide +kernel
theorem dX8_set_269 : decode cX8_set 269 = .ok (.iconst 0, 1) := by decide +kernel
theorem dX8_set_270 : decode cX8_set 270 = .ok (.iaload, 1) := by decide +kernel
theorem dX8_set_271 : decode cX8_set 271 = .ok (.ifCond .ne 20, 3) := by decide +kernel
theorem dX8_set_274 : decode cX8_set 274 = .ok (.iload 4, 2) := by decide +kernel
theorem dX8_set_276 : decode cX8_set 276 = .ok (.aload_n 0, 1) := by decide +kernel
theorem dX8_set_277 : decode cX8_set 277 = .ok (.getfield 99, 3) := by decide +kernel
theorem dX8_set_280 : decode cX8_set 280 = .ok (.if_icmp .ne 11, 3) := by decide +kernel
theorem dX8_set_283 : decode cX8_set 283 = .ok (.aload_n 0, 1) := by decide +kernel
theorem dX8_set_284 : decode cX8_set 284 = .ok (.getfield 22, 3) := by decide +kernel
theorem dX8_set_287 : decode cX8_set 287 = .ok (.iload 4, 2) := by decide +kernel
theorem dX8_set_289 : decode cX8_set 289 = .ok (.iconst 0, 1) := by decide +kernel
theorem dX8_set_290 : decode cX8_set 290 = .ok (.bastore, 1) := by decide +kernel
theorem dX8_set_291 : decode cX8_set 291 = .ok (.iinc 4 1, 3) := by decide +kernel
theorem dX8_set_294 : decode cX8_set 294 = .ok (.goto (-46), 3) := by decide +kernel
theorem dX8_set_297 : decode cX8_set 297 = .ok (.goto 63, 3) := by decide +kernel
theorem dX8_set_300 : decode cX8_set 300 = .ok (.iconst 0, 1) := by decide +kernel
