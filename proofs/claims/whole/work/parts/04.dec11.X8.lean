theorem dX8_set_301 : decode cX8_set 301 = .ok (.istore 4, 2) := by decide +kernel
theorem dX8_set_303 : decode cX8_set 303 = .ok (.iload 4, 2) := by decide +kernel
theorem dX8_set_305 : decode cX8_set 305 = .ok (.aload_n 0, 1) := by decide +kernel
theorem dX8_set_306 : decode cX8_set 306 = .ok (.invokevirtual 213, 3) := by decide +kernel
theorem dX8_set_309 : decode cX8_set 309 = .ok (.if_icmp .ge 35, 3) := by decide +kernel
theorem dX8_set_312 : decode cX8_set 312 = .ok (.aload_n 0, 1) := by decide +kernel
theorem dX8_set_313 : decode cX8_set 313 = .ok (.getfield 35, 3) := by decide +kernel
theorem dX8_set_316 : decode cX8_set 316 = .ok (.iload 4, 2) := by decide +kernel
theorem dX8_set_318 : decode cX8_set 318 = .ok (.iaload, 1) := by decide +kernel
theorem dX8_set_319 : decode cX8_set 319 = .ok (.iconst 4, 1) := by decide +kernel
theorem dX8_set_320 : decode cX8_set 320 = .ok (.if_icmp .ne 18, 3) := by decide +kernel
theorem dX8_set_323 : decode cX8_set 323 = .ok (.aload_n 0, 1) := by decide +kernel
theorem dX8_set_324 : decode cX8_set 324 = .ok (.iload_n 1, 1) := by decide +kernel
theorem dX8_set_325 : decode cX8_set 325 = .ok (.bipush 104, 2) := by decide +kernel
theorem dX8_set_327 : decode cX8_set 327 = .ok (.if_icmp .ne 7, 3) := by decide +kernel
theorem dX8_set_330 : decode cX8_set 330 = .ok (.iconst 1, 1) := by decide +kernel
theorem dX8_set_331 : decode cX8_set 331 = .ok (.goto 4, 3) := by decide +kernel
theorem dX8_set_334 : decode cX8_set 334 = .ok (.iconst 0, 1) := by decide +kernel
theorem dX8_set_335 : decode cX8_set 335 = .ok (.putfield 65, 3) := by decide +kernel
theorem dX8_set_338 : decode cX8_set 338 = .ok (.iinc 4 1, 3) := by decide +kernel
theorem dX8_set_341 : decode cX8_set 341 = .ok (.goto (-38), 3) := by decide +kernel
theorem dX8_set_344 : decode cX8_set 344 = .ok (.goto 16, 3) := by decide +kernel
theorem dX8_set_347 : decode cX8_set 347 = .ok (.aload_n 0, 1) := by decide +kernel
theorem dX8_set_348 : decode cX8_set 348 = .ok (.aload_n 0, 1) := by decide +kernel
theorem dX8_set_349 : decode cX8_set 349 = .ok (.getfield 35, 3) := by decide +kernel
theorem dX8_set_352 : decode cX8_set 352 = .ok (.iconst 0, 1) := by decide +kernel
theorem dX8_set_353 : decode cX8_set 353 = .ok (.iaload, 1) := by decide +kernel
theorem dX8_set_354 : decode cX8_set 354 = .ok (.invokevirtual 245, 3) := by decide +kernel
theorem dX8_set_357 : decode cX8_set 357 = .ok (.goto 3, 3) := by decide +kernel
theorem dX8_set_360 : decode cX8_set 360 = .ok (.return_, 1) := by decide +kernel
theorem dX8_dip_0 : decode cX8_dip 0 = .ok (.iload_n 1, 1) := by decide +kernel
theorem dX8_dip_1 : decode cX8_dip 1 = .ok (.ifCond .ne 8, 3) := by decide +kernel
theorem dX8_dip_4 : decode cX8_dip 4 = .ok (.aload_n 0, 1) := by decide +kernel
theorem dX8_dip_5 : decode cX8_dip 5 = .ok (.iconst 0, 1) := by decide +kernel
theorem dX8_dip_6 : decode cX8_dip 6 = .ok (.invokevirtual 56, 3) := by decide +kernel
theorem dX8_dip_9 : decode cX8_dip 9 = .ok (.iload_n 1, 1) := by decide +kernel
theorem dX8_dip_10 : decode cX8_dip 10 = .ok (.iconst 1, 1) := by decide +kernel
theorem dX8_dip_11 : decode cX8_dip 11 = .ok (.if_icmp .eq 9, 3) := by decide +kernel
theorem dX8_dip_14 : decode cX8_dip 14 = .ok (.iload_n 1, 1) := by decide +kernel
theorem dX8_dip_15 : decode cX8_dip 15 = .ok (.bipush 22, 2) := by decide +kernel
theorem dX8_dip_17 : decode cX8_dip 17 = .ok (.if_icmp .ne 17, 3) := by decide +kernel
theorem dX8_dip_20 : decode cX8_dip 20 = .ok (.aload_n 0, 1) := by decide +kernel
theorem dX8_dip_21 : decode cX8_dip 21 = .ok (.iload_n 1, 1) := by decide +kernel
theorem dX8_dip_22 : decode cX8_dip 22 = .ok (.iconst 1, 1) := by decide +kernel
theorem dX8_dip_23 : decode cX8_dip 23 = .ok (.if_icmp .ne 7, 3) := by decide +kernel
theorem dX8_dip_26 : decode cX8_dip 26 = .ok (.iconst 1, 1) := by decide +kernel
theorem dX8_dip_27 : decode cX8_dip 27 = .ok (.goto 4, 3) := by decide +kernel
theorem dX8_dip_30 : decode cX8_dip 30 = .ok (.iconst 0, 1) := by decide +kernel
theorem dX8_dip_31 : decode cX8_dip 31 = .ok (.putfield 105, 3) := by decide +kernel
theorem dX8_dip_34 : decode cX8_dip 34 = .ok (.iload_n 1, 1) := by decide +kernel
theorem dX8_dip_35 : decode cX8_dip 35 = .ok (.iconst 4, 1) := by decide +kernel
theorem dX8_dip_36 : decode cX8_dip 36 = .ok (.if_icmp .eq 9, 3) := by decide +kernel
theorem dX8_dip_39 : decode cX8_dip 39 = .ok (.iload_n 1, 1) := by decide +kernel
theorem dX8_dip_40 : decode cX8_dip 40 = .ok (.bipush 24, 2) := by decide +kernel
theorem dX8_dip_42 : decode cX8_dip 42 = .ok (.if_icmp .ne 17, 3) := by decide +kernel
theorem dX8_dip_45 : decode cX8_dip 45 = .ok (.aload_n 0, 1) := by decide +kernel
theorem dX8_dip_46 : decode cX8_dip 46 = .ok (.iload_n 1, 1) := by decide +kernel
theorem dX8_dip_47 : decode cX8_dip 47 = .ok (.iconst 4, 1) := by decide +kernel
theorem dX8_dip_48 : decode cX8_dip 48 = .ok (.if_icmp .ne 7, 3) := by decide +kernel
theorem dX8_dip_51 : decode cX8_dip 51 = .ok (.iconst 1, 1) := by decide +kernel
theorem dX8_dip_52 : decode cX8_dip 52 = .ok (.goto 4, 3) := by decide +kernel
theorem dX8_dip_55 : decode cX8_dip 55 = .ok (.iconst 0, 1) := by decide +kernel
theorem dX8_dip_56 : decode cX8_dip 56 = .ok (.putfield 108, 3) := by decide +kernel
theorem dX8_dip_59 : decode cX8_dip 59 = .ok (.iload_n 1, 1) := by decide +kernel
theorem dX8_dip_60 : decode cX8_dip 60 = .ok (.bipush 7, 2) := by decide +kernel
theorem dX8_dip_62 : decode cX8_dip 62 = .ok (.if_icmp .eq 9, 3) := by decide +kernel
theorem dX8_dip_65 : decode cX8_dip 65 = .ok (.iload_n 1, 1) := by decide +kernel
theorem dX8_dip_66 : decode cX8_dip 66 = .ok (.bipush 27, 2) := by decide +kernel
theorem dX8_dip_68 : decode cX8_dip 68 = .ok (.if_icmp .ne 18, 3) := by decide +kernel
theorem dX8_dip_71 : decode cX8_dip 71 = .ok (.aload_n 0, 1) := by decide +kernel
theorem dX8_dip_72 : decode cX8_dip 72 = .ok (.iload_n 1, 1) := by decide +kernel
theorem dX8_dip_73 : decode cX8_dip 73 = .ok (.bipush 7, 2) := by decide +kernel
theorem dX8_dip_75 : decode cX8_dip 75 = .ok (.if_icmp .ne 7, 3) := by decide +kernel
theorem dX8_dip_78 : decode cX8_dip 78 = .ok (.iconst 1, 1) := by decide +kernel
theorem dX8_dip_79 : decode cX8_dip 79 = .ok (.goto 4, 3) := by decide +kernel
theorem dX8_dip_82 : decode cX8_dip 82 = .ok (.iconst 0, 1) := by decide +kernel
theorem dX8_dip_83 : decode cX8_dip 83 = .ok (.putfield 111, 3) := by decide +kernel
theorem dX8_dip_86 : decode cX8_dip 86 = .ok (.iload_n 1, 1) := by decide +kernel
theorem dX8_dip_87 : decode cX8_dip 87 = .ok (.bipush 30, 2) := by decide +kernel
theorem dX8_dip_89 : decode cX8_dip 89 = .ok (.if_icmp .lt 17, 3) := by decide +kernel
theorem dX8_dip_92 : decode cX8_dip 92 = .ok (.iload_n 1, 1) := by decide +kernel
theorem dX8_dip_93 : decode cX8_dip 93 = .ok (.bipush 37, 2) := by decide +kernel
theorem dX8_dip_95 : decode cX8_dip 95 = .ok (.if_icmp .gt 11, 3) := by decide +kernel
theorem dX8_dip_98 : decode cX8_dip 98 = .ok (.aload_n 0, 1) := by decide +kernel
theorem dX8_dip_99 : decode cX8_dip 99 = .ok (.iload_n 1, 1) := by decide +kernel
theorem dX8_dip_100 : decode cX8_dip 100 = .ok (.bipush 29, 2) := by decide +kernel
theorem dX8_dip_102 : decode cX8_dip 102 = .ok (.isub, 1) := by decide +kernel
theorem dX8_dip_103 : decode cX8_dip 103 = .ok (.putfield 114, 3) := by decide +kernel
theorem dX8_dip_106 : decode cX8_dip 106 = .ok (.iload_n 1, 1) := by decide +kernel
theorem dX8_dip_107 : decode cX8_dip 107 = .ok (.bipush 39, 2) := by decide +kernel
theorem dX8_dip_109 : decode cX8_dip 109 = .ok (.if_icmp .ne 8, 3) := by decide +kernel
theorem dX8_dip_112 : decode cX8_dip 112 = .ok (.aload_n 0, 1) := by decide +kernel
theorem dX8_dip_113 : decode cX8_dip 113 = .ok (.iconst 0, 1) := by decide +kernel
theorem dX8_dip_114 : decode cX8_dip 114 = .ok (.putfield 114, 3) := by decide +kernel
theorem dX8_dip_117 : decode cX8_dip 117 = .ok (.iload_n 1, 1) := by decide +kernel
theorem dX8_dip_118 : decode cX8_dip 118 = .ok (.bipush 40, 2) := by decide +kernel
theorem dX8_dip_120 : decode cX8_dip 120 = .ok (.if_icmp .lt 17, 3) := by decide +kernel
theorem dX8_dip_123 : decode cX8_dip 123 = .ok (.iload_n 1, 1) := by decide +kernel
theorem dX8_dip_124 : decode cX8_dip 124 = .ok (.bipush 47, 2) := by decide +kernel
theorem dX8_dip_126 : decode cX8_dip 126 = .ok (.if_icmp .gt 11, 3) := by decide +kernel
theorem dX8_dip_129 : decode cX8_dip 129 = .ok (.aload_n 0, 1) := by decide +kernel
theorem dX8_dip_130 : decode cX8_dip 130 = .ok (.iload_n 1, 1) := by decide +kernel
theorem dX8_dip_131 : decode cX8_dip 131 = .ok (.bipush 39, 2) := by decide +kernel
theorem dX8_dip_133 : decode cX8_dip 133 = .ok (.isub, 1) := by decide +kernel
theorem dX8_dip_134 : decode cX8_dip 134 = .ok (.putfield 117, 3) := by decide +kernel
theorem dX8_dip_137 : decode cX8_dip 137 = .ok (.iload_n 1, 1) := by decide +kernel
theorem dX8_dip_138 : decode cX8_dip 138 = .ok (.bipush 49, 2) := by decide +kernel
theorem dX8_dip_140 : decode cX8_dip 140 = .ok (.if_icmp .ne 8, 3) := by decide +kernel
theorem dX8_dip_143 : decode cX8_dip 143 = .ok (.aload_n 0, 1) := by decide +kernel
theorem dX8_dip_144 : decode cX8_dip 144 = .ok (.iconst 0, 1) := by decide +kernel
theorem dX8_dip_145 : decode cX8_dip 145 = .ok (.putfield 117, 3) := by decide +kernel
theorem dX8_dip_148 : decode cX8_dip 148 = .ok (.return_, 1) := by decide +kernel
theorem dX8_answer_0 : decode cX8_answer 0 = .ok (.iload_n 1, 1) := by decide +kernel
theorem dX8_answer_1 : decode cX8_answer 1 = .ok (.iconst 5, 1) := by decide +kernel
theorem dX8_answer_2 : decode cX8_answer 2 = .ok (.if_icmp .ne 38, 3) := by decide +kernel
theorem dX8_answer_5 : decode cX8_answer 5 = .ok (.aload_n 0, 1) := by decide +kernel
theorem dX8_answer_6 : decode cX8_answer 6 = .ok (.getfield 84, 3) := by decide +kernel
theorem dX8_answer_9 : decode cX8_answer 9 = .ok (.iconst 4, 1) := by decide +kernel
theorem dX8_answer_10 : decode cX8_answer 10 = .ok (.iadd, 1) := by decide +kernel
theorem dX8_answer_11 : decode cX8_answer 11 = .ok (.bipush 64, 2) := by decide +kernel
theorem dX8_answer_13 : decode cX8_answer 13 = .ok (.if_icmp .gt 27, 3) := by decide +kernel
theorem dX8_answer_16 : decode cX8_answer 16 = .ok (.aload_n 0, 1) := by decide +kernel
theorem dX8_answer_17 : decode cX8_answer 17 = .ok (.bipush 27, 2) := by decide +kernel
theorem dX8_answer_19 : decode cX8_answer 19 = .ok (.invokevirtual 248, 3) := by decide +kernel
theorem dX8_answer_22 : decode cX8_answer 22 = .ok (.aload_n 0, 1) := by decide +kernel
theorem dX8_answer_23 : decode cX8_answer 23 = .ok (.bipush 91, 2) := by decide +kernel
theorem dX8_answer_25 : decode cX8_answer 25 = .ok (.invokevirtual 248, 3) := by decide +kernel
theorem dX8_answer_28 : decode cX8_answer 28 = .ok (.aload_n 0, 1) := by decide +kernel
theorem dX8_answer_29 : decode cX8_answer 29 = .ok (.bipush 48, 2) := by decide +kernel
theorem dX8_answer_31 : decode cX8_answer 31 = .ok (.invokevirtual 248, 3) := by decide +kernel
theorem dX8_answer_34 : decode cX8_answer 34 = .ok (.aload_n 0, 1) := by decide +kernel
theorem dX8_answer_35 : decode cX8_answer 35 = .ok (.bipush 110, 2) := by decide +kernel
theorem dX8_answer_37 : decode cX8_answer 37 = .ok (.invokevirtual 248, 3) := by decide +kernel
theorem dX8_answer_40 : decode cX8_answer 40 = .ok (.iload_n 1, 1) := by decide +kernel
theorem dX8_answer_41 : decode cX8_answer 41 = .ok (.bipush 6, 2) := by decide +kernel
theorem dX8_answer_43 : decode cX8_answer 43 = .ok (.if_icmp .eq 4, 3) := by decide +kernel
theorem dX8_answer_46 : decode cX8_answer 46 = .ok (.return_, 1) := by decide +kernel
theorem dX8_answer_47 : decode cX8_answer 47 = .ok (.aload_n 0, 1) := by decide +kernel
theorem dX8_answer_48 : decode cX8_answer 48 = .ok (.getfield 69, 3) := by decide +kernel
theorem dX8_answer_51 : decode cX8_answer 51 = .ok (.ifCond .ne 12, 3) := by decide +kernel
theorem dX8_answer_54 : decode cX8_answer 54 = .ok (.aload_n 0, 1) := by decide +kernel
theorem dX8_answer_55 : decode cX8_answer 55 = .ok (.getfield 96, 3) := by decide +kernel
theorem dX8_answer_58 : decode cX8_answer 58 = .ok (.iconst 1, 1) := by decide +kernel
theorem dX8_answer_59 : decode cX8_answer 59 = .ok (.iadd, 1) := by decide +kernel
theorem dX8_answer_60 : decode cX8_answer 60 = .ok (.goto 29, 3) := by decide +kernel
theorem dX8_answer_63 : decode cX8_answer 63 = .ok (.aload_n 0, 1) := by decide +kernel
theorem dX8_answer_64 : decode cX8_answer 64 = .ok (.getfield 96, 3) := by decide +kernel
theorem dX8_answer_67 : decode cX8_answer 67 = .ok (.aload_n 0, 1) := by decide +kernel
theorem dX8_answer_68 : decode cX8_answer 68 = .ok (.getfield 59, 3) := by decide +kernel
theorem dX8_answer_71 : decode cX8_answer 71 = .ok (.if_icmp .ge 7, 3) := by decide +kernel
theorem dX8_answer_74 : decode cX8_answer 74 = .ok (.iconst 0, 1) := by decide +kernel
theorem dX8_answer_75 : decode cX8_answer 75 = .ok (.goto 14, 3) := by decide +kernel
theorem dX8_answer_78 : decode cX8_answer 78 = .ok (.aload_n 0, 1) := by decide +kernel
theorem dX8_answer_79 : decode cX8_answer 79 = .ok (.getfield 96, 3) := by decide +kernel
theorem dX8_answer_82 : decode cX8_answer 82 = .ok (.aload_n 0, 1) := by decide +kernel
theorem dX8_answer_83 : decode cX8_answer 83 = .ok (.getfield 59, 3) := by decide +kernel
theorem dX8_answer_86 : decode cX8_answer 86 = .ok (.isub, 1) := by decide +kernel
theorem dX8_answer_87 : decode cX8_answer 87 = .ok (.iconst 1, 1) := by decide +kernel
theorem dX8_answer_88 : decode cX8_answer 88 = .ok (.iadd, 1) := by decide +kernel
theorem dX8_answer_89 : decode cX8_answer 89 = .ok (.istore_n 2, 1) := by decide +kernel
theorem dX8_answer_90 : decode cX8_answer 90 = .ok (.bipush 6, 2) := by decide +kernel
theorem dX8_answer_92 : decode cX8_answer 92 = .ok (.aload_n 0, 1) := by decide +kernel
theorem dX8_answer_93 : decode cX8_answer 93 = .ok (.getfield 99, 3) := by decide +kernel
theorem dX8_answer_96 : decode cX8_answer 96 = .ok (.iconst 1, 1) := by decide +kernel
theorem dX8_answer_97 : decode cX8_answer 97 = .ok (.iadd, 1) := by decide +kernel
theorem dX8_answer_98 : decode cX8_answer 98 = .ok (.bipush 9, 2) := by decide +kernel
theorem dX8_answer_100 : decode cX8_answer 100 = .ok (.if_icmp .le 7, 3) := by decide +kernel
theorem dX8_answer_103 : decode cX8_answer 103 = .ok (.iconst 1, 1) := by decide +kernel
theorem dX8_answer_104 : decode cX8_answer 104 = .ok (.goto 4, 3) := by decide +kernel
theorem dX8_answer_107 : decode cX8_answer 107 = .ok (.iconst 0, 1) := by decide +kernel
theorem dX8_answer_108 : decode cX8_answer 108 = .ok (.iadd, 1) := by decide +kernel
theorem dX8_answer_109 : decode cX8_answer 109 = .ok (.istore_n 3, 1) := by decide +kernel
theorem dX8_answer_110 : decode cX8_answer 110 = .ok (.aload_n 0, 1) := by decide +kernel
theorem dX8_answer_111 : decode cX8_answer 111 = .ok (.getfield 84, 3) := by decide +kernel
theorem dX8_answer_114 : decode cX8_answer 114 = .ok (.iload_n 3, 1) := by decide +kernel
theorem dX8_answer_115 : decode cX8_answer 115 = .ok (.iadd, 1) := by decide +kernel
theorem dX8_answer_116 : decode cX8_answer 116 = .ok (.bipush 64, 2) := by decide +kernel
theorem dX8_answer_118 : decode cX8_answer 118 = .ok (.if_icmp .le 4, 3) := by decide +kernel
theorem dX8_answer_121 : decode cX8_answer 121 = .ok (.return_, 1) := by decide +kernel
theorem dX8_answer_122 : decode cX8_answer 122 = .ok (.aload_n 0, 1) := by decide +kernel
theorem dX8_answer_123 : decode cX8_answer 123 = .ok (.bipush 27, 2) := by decide +kernel
theorem dX8_answer_125 : decode cX8_answer 125 = .ok (.invokevirtual 248, 3) := by decide +kernel
theorem dX8_answer_128 : decode cX8_answer 128 = .ok (.aload_n 0, 1) := by decide +kernel
theorem dX8_answer_129 : decode cX8_answer 129 = .ok (.bipush 91, 2) := by decide +kernel
theorem dX8_answer_131 : decode cX8_answer 131 = .ok (.invokevirtual 248, 3) := by decide +kernel
theorem dX8_answer_134 : decode cX8_answer 134 = .ok (.aload_n 0, 1) := by decide +kernel
theorem dX8_answer_135 : decode cX8_answer 135 = .ok (.bipush 48, 2) := by decide +kernel
theorem dX8_answer_137 : decode cX8_answer 137 = .ok (.iload_n 2, 1) := by decide +kernel
theorem dX8_answer_138 : decode cX8_answer 138 = .ok (.iadd, 1) := by decide +kernel
theorem dX8_answer_139 : decode cX8_answer 139 = .ok (.invokevirtual 248, 3) := by decide +kernel
theorem dX8_answer_142 : decode cX8_answer 142 = .ok (.aload_n 0, 1) := by decide +kernel
theorem dX8_answer_143 : decode cX8_answer 143 = .ok (.bipush 59, 2) := by decide +kernel
theorem dX8_answer_145 : decode cX8_answer 145 = .ok (.invokevirtual 248, 3) := by decide +kernel
theorem dX8_answer_148 : decode cX8_answer 148 = .ok (.aload_n 0, 1) := by decide +kernel
theorem dX8_answer_149 : decode cX8_answer 149 = .ok (.getfield 99, 3) := by decide +kernel
theorem dX8_answer_152 : decode cX8_answer 152 = .ok (.iconst 1, 1) := by decide +kernel
theorem dX8_answer_153 : decode cX8_answer 153 = .ok (.iadd, 1) := by decide +kernel
theorem dX8_answer_154 : decode cX8_answer 154 = .ok (.bipush 9, 2) := by decide +kernel
theorem dX8_answer_156 : decode cX8_answer 156 = .ok (.if_icmp .le 19, 3) := by decide +kernel
theorem dX8_answer_159 : decode cX8_answer 159 = .ok (.aload_n 0, 1) := by decide +kernel
theorem dX8_answer_160 : decode cX8_answer 160 = .ok (.bipush 48, 2) := by decide +kernel
theorem dX8_answer_162 : decode cX8_answer 162 = .ok (.aload_n 0, 1) := by decide +kernel
theorem dX8_answer_163 : decode cX8_answer 163 = .ok (.getfield 99, 3) := by decide +kernel
theorem dX8_answer_166 : decode cX8_answer 166 = .ok (.iconst 1, 1) := by decide +kernel
theorem dX8_answer_167 : decode cX8_answer 167 = .ok (.iadd, 1) := by decide +kernel
theorem dX8_answer_168 : decode cX8_answer 168 = .ok (.bipush 10, 2) := by decide +kernel
theorem dX8_answer_170 : decode cX8_answer 170 = .ok (.idiv, 1) := by decide +kernel
theorem dX8_answer_171 : decode cX8_answer 171 = .ok (.iadd, 1) := by decide +kernel
theorem dX8_answer_172 : decode cX8_answer 172 = .ok (.invokevirtual 248, 3) := by decide +kernel
theorem dX8_answer_175 : decode cX8_answer 175 = .ok (.aload_n 0, 1) := by decide +kernel
theorem dX8_answer_176 : decode cX8_answer 176 = .ok (.bipush 48, 2) := by decide +kernel
theorem dX8_answer_178 : decode cX8_answer 178 = .ok (.aload_n 0, 1) := by decide +kernel
theorem dX8_answer_179 : decode cX8_answer 179 = .ok (.getfield 99, 3) := by decide +kernel
theorem dX8_answer_182 : decode cX8_answer 182 = .ok (.iconst 1, 1) := by decide +kernel
theorem dX8_answer_183 : decode cX8_answer 183 = .ok (.iadd, 1) := by decide +kernel
theorem dX8_answer_184 : decode cX8_answer 184 = .ok (.bipush 10, 2) := by decide +kernel
theorem dX8_answer_186 : decode cX8_answer 186 = .ok (.irem, 1) := by decide +kernel
theorem dX8_answer_187 : decode cX8_answer 187 = .ok (.iadd, 1) := by decide +kernel
theorem dX8_answer_188 : decode cX8_answer 188 = .ok (.invokevirtual 248, 3) := by decide +kernel
theorem dX8_answer_191 : decode cX8_answer 191 = .ok (.aload_n 0, 1) := by decide +kernel
theorem dX8_answer_192 : decode cX8_answer 192 = .ok (.bipush 82, 2) := by decide +kernel
theorem dX8_answer_194 : decode cX8_answer 194 = .ok (.invokevirtual 248, 3) := by decide +kernel
theorem dX8_answer_197 : decode cX8_answer 197 = .ok (.return_, 1) := by decide +kernel
theorem dX8_put_0 : decode cX8_put 0 = .ok (.aload_n 0, 1) := by decide +kernel
theorem dX8_put_1 : decode cX8_put 1 = .ok (.getfield 26, 3) := by decide +kernel
theorem dX8_put_4 : decode cX8_put 4 = .ok (.aload_n 0, 1) := by decide +kernel
theorem dX8_put_5 : decode cX8_put 5 = .ok (.getfield 84, 3) := by decide +kernel
theorem dX8_put_8 : decode cX8_put 8 = .ok (.iload_n 1, 1) := by decide +kernel
theorem dX8_put_9 : decode cX8_put 9 = .ok (.iastore, 1) := by decide +kernel
theorem dX8_put_10 : decode cX8_put 10 = .ok (.aload_n 0, 1) := by decide +kernel
theorem dX8_put_11 : decode cX8_put 11 = .ok (.aload_n 0, 1) := by decide +kernel
theorem dX8_put_12 : decode cX8_put 12 = .ok (.getfield 84, 3) := by decide +kernel
theorem dX8_put_15 : decode cX8_put 15 = .ok (.iconst 1, 1) := by decide +kernel
theorem dX8_put_16 : decode cX8_put 16 = .ok (.iadd, 1) := by decide +kernel
theorem dX8_put_17 : decode cX8_put 17 = .ok (.putfield 84, 3) := by decide +kernel
theorem dX8_put_20 : decode cX8_put 20 = .ok (.return_, 1) := by decide +kernel
theorem dX8_row_0 : decode cX8_row 0 = .ok (.aload_n 0, 1) := by decide +kernel
theorem dX8_row_1 : decode cX8_row 1 = .ok (.iconst 0, 1) := by decide +kernel
theorem dX8_row_2 : decode cX8_row 2 = .ok (.putfield 41, 3) := by decide +kernel
theorem dX8_row_5 : decode cX8_row 5 = .ok (.aload_n 0, 1) := by decide +kernel
theorem dX8_row_6 : decode cX8_row 6 = .ok (.getfield 96, 3) := by decide +kernel
theorem dX8_row_9 : decode cX8_row 9 = .ok (.ireturn, 1) := by decide +kernel
theorem dX8_column_0 : decode cX8_column 0 = .ok (.aload_n 0, 1) := by decide +kernel
theorem dX8_column_1 : decode cX8_column 1 = .ok (.iconst 0, 1) := by decide +kernel
theorem dX8_column_2 : decode cX8_column 2 = .ok (.putfield 41, 3) := by decide +kernel
theorem dX8_column_5 : decode cX8_column 5 = .ok (.aload_n 0, 1) := by decide +kernel
theorem dX8_column_6 : decode cX8_column 6 = .ok (.getfield 99, 3) := by decide +kernel
theorem dX8_column_9 : decode cX8_column 9 = .ok (.ireturn, 1) := by decide +kernel
theorem dX8_full_0 : decode cX8_full 0 = .ok (.aload_n 0, 1) := by decide +kernel
theorem dX8_full_1 : decode cX8_full 1 = .ok (.iconst 0, 1) := by decide +kernel
theorem dX8_full_2 : decode cX8_full 2 = .ok (.putfield 41, 3) := by decide +kernel
theorem dX8_full_5 : decode cX8_full 5 = .ok (.aload_n 0, 1) := by decide +kernel
theorem dX8_full_6 : decode cX8_full 6 = .ok (.getfield 102, 3) := by decide +kernel
theorem dX8_full_9 : decode cX8_full 9 = .ok (.ireturn, 1) := by decide +kernel
theorem dX8_pen_0 : decode cX8_pen 0 = .ok (.aload_n 0, 1) := by decide +kernel
theorem dX8_pen_1 : decode cX8_pen 1 = .ok (.iconst 0, 1) := by decide +kernel
theorem dX8_pen_2 : decode cX8_pen 2 = .ok (.putfield 41, 3) := by decide +kernel
theorem dX8_pen_5 : decode cX8_pen 5 = .ok (.aload_n 0, 1) := by decide +kernel
theorem dX8_pen_6 : decode cX8_pen 6 = .ok (.invokevirtual 129, 3) := by decide +kernel
theorem dX8_pen_9 : decode cX8_pen 9 = .ok (.ireturn, 1) := by decide +kernel
theorem dX8_mode_0 : decode cX8_mode 0 = .ok (.aload_n 0, 1) := by decide +kernel
theorem dX8_mode_1 : decode cX8_mode 1 = .ok (.iconst 0, 1) := by decide +kernel
theorem dX8_mode_2 : decode cX8_mode 2 = .ok (.putfield 41, 3) := by decide +kernel
theorem dX8_mode_5 : decode cX8_mode 5 = .ok (.iload_n 1, 1) := by decide +kernel
theorem dX8_mode_6 : decode cX8_mode 6 = .ok (.ifCond .ne 10, 3) := by decide +kernel
theorem dX8_mode_9 : decode cX8_mode 9 = .ok (.aload_n 0, 1) := by decide +kernel
theorem dX8_mode_10 : decode cX8_mode 10 = .ok (.getfield 65, 3) := by decide +kernel
theorem dX8_mode_13 : decode cX8_mode 13 = .ok (.goto 40, 3) := by decide +kernel
theorem dX8_mode_16 : decode cX8_mode 16 = .ok (.iload_n 1, 1) := by decide +kernel
theorem dX8_mode_17 : decode cX8_mode 17 = .ok (.iconst 1, 1) := by decide +kernel
theorem dX8_mode_18 : decode cX8_mode 18 = .ok (.if_icmp .ne 10, 3) := by decide +kernel
theorem dX8_mode_21 : decode cX8_mode 21 = .ok (.aload_n 0, 1) := by decide +kernel
theorem dX8_mode_22 : decode cX8_mode 22 = .ok (.getfield 69, 3) := by decide +kernel
theorem dX8_mode_25 : decode cX8_mode 25 = .ok (.goto 28, 3) := by decide +kernel
theorem dX8_mode_28 : decode cX8_mode 28 = .ok (.iload_n 1, 1) := by decide +kernel
theorem dX8_mode_29 : decode cX8_mode 29 = .ok (.iconst 2, 1) := by decide +kernel
theorem dX8_mode_30 : decode cX8_mode 30 = .ok (.if_icmp .ne 10, 3) := by decide +kernel
theorem dX8_mode_33 : decode cX8_mode 33 = .ok (.aload_n 0, 1) := by decide +kernel
theorem dX8_mode_34 : decode cX8_mode 34 = .ok (.getfield 72, 3) := by decide +kernel
theorem dX8_mode_37 : decode cX8_mode 37 = .ok (.goto 16, 3) := by decide +kernel
theorem dX8_mode_40 : decode cX8_mode 40 = .ok (.aload_n 0, 1) := by decide +kernel
theorem dX8_mode_41 : decode cX8_mode 41 = .ok (.getfield 49, 3) := by decide +kernel
theorem dX8_mode_44 : decode cX8_mode 44 = .ok (.iconst 1, 1) := by decide +kernel
theorem dX8_mode_45 : decode cX8_mode 45 = .ok (.if_icmp .ne 7, 3) := by decide +kernel
theorem dX8_mode_48 : decode cX8_mode 48 = .ok (.iconst 1, 1) := by decide +kernel
theorem dX8_mode_49 : decode cX8_mode 49 = .ok (.goto 4, 3) := by decide +kernel
theorem dX8_mode_52 : decode cX8_mode 52 = .ok (.iconst 0, 1) := by decide +kernel
theorem dX8_mode_53 : decode cX8_mode 53 = .ok (.istore_n 2, 1) := by decide +kernel
theorem dX8_mode_54 : decode cX8_mode 54 = .ok (.iload_n 1, 1) := by decide +kernel
theorem dX8_mode_55 : decode cX8_mode 55 = .ok (.ifCond .lt 8, 3) := by decide +kernel
theorem dX8_mode_58 : decode cX8_mode 58 = .ok (.iload_n 1, 1) := by decide +kernel
theorem dX8_mode_59 : decode cX8_mode 59 = .ok (.iconst 3, 1) := by decide +kernel
theorem dX8_mode_60 : decode cX8_mode 60 = .ok (.if_icmp .le 7, 3) := by decide +kernel
theorem dX8_mode_63 : decode cX8_mode 63 = .ok (.iconst (-1), 1) := by decide +kernel
theorem dX8_mode_64 : decode cX8_mode 64 = .ok (.goto 12, 3) := by decide +kernel
theorem dX8_mode_67 : decode cX8_mode 67 = .ok (.iload_n 2, 1) := by decide +kernel
theorem dX8_mode_68 : decode cX8_mode 68 = .ok (.ifCond .eq 7, 3) := by decide +kernel
theorem dX8_mode_71 : decode cX8_mode 71 = .ok (.iconst 1, 1) := by decide +kernel
theorem dX8_mode_72 : decode cX8_mode 72 = .ok (.goto 4, 3) := by decide +kernel
theorem dX8_mode_75 : decode cX8_mode 75 = .ok (.iconst 0, 1) := by decide +kernel
theorem dX8_mode_76 : decode cX8_mode 76 = .ok (.ireturn, 1) := by decide +kernel
theorem dX8_region_0 : decode cX8_region 0 = .ok (.aload_n 0, 1) := by decide +kernel
theorem dX8_region_1 : decode cX8_region 1 = .ok (.iconst 0, 1) := by decide +kernel
theorem dX8_region_2 : decode cX8_region 2 = .ok (.putfield 41, 3) := by decide +kernel
theorem dX8_region_5 : decode cX8_region 5 = .ok (.bipush 8, 2) := by decide +kernel
theorem dX8_region_7 : decode cX8_region 7 = .ok (.aload_n 0, 1) := by decide +kernel
theorem dX8_region_8 : decode cX8_region 8 = .ok (.getfield 59, 3) := by decide +kernel
theorem dX8_region_11 : decode cX8_region 11 = .ok (.imul, 1) := by decide +kernel
theorem dX8_region_12 : decode cX8_region 12 = .ok (.aload_n 0, 1) := by decide +kernel
theorem dX8_region_13 : decode cX8_region 13 = .ok (.getfield 62, 3) := by decide +kernel
theorem dX8_region_16 : decode cX8_region 16 = .ok (.iadd, 1) := by decide +kernel
theorem dX8_region_17 : decode cX8_region 17 = .ok (.ireturn, 1) := by decide +kernel
theorem dX8_tab_0 : decode cX8_tab 0 = .ok (.aload_n 0, 1) := by decide +kernel
theorem dX8_tab_1 : decode cX8_tab 1 = .ok (.iconst 0, 1) := by decide +kernel
theorem dX8_tab_2 : decode cX8_tab 2 = .ok (.putfield 41, 3) := by decide +kernel
theorem dX8_tab_5 : decode cX8_tab 5 = .ok (.iload_n 1, 1) := by decide +kernel
theorem dX8_tab_6 : decode cX8_tab 6 = .ok (.ifCond .lt 22, 3) := by decide +kernel
theorem dX8_tab_9 : decode cX8_tab 9 = .ok (.iload_n 1, 1) := by decide +kernel
theorem dX8_tab_10 : decode cX8_tab 10 = .ok (.bipush 12, 2) := by decide +kernel
theorem dX8_tab_12 : decode cX8_tab 12 = .ok (.if_icmp .ge 16, 3) := by decide +kernel
theorem dX8_tab_15 : decode cX8_tab 15 = .ok (.aload_n 0, 1) := by decide +kernel
theorem dX8_tab_16 : decode cX8_tab 16 = .ok (.getfield 22, 3) := by decide +kernel
theorem dX8_tab_19 : decode cX8_tab 19 = .ok (.iload_n 1, 1) := by decide +kernel
theorem dX8_tab_20 : decode cX8_tab 20 = .ok (.baload, 1) := by decide +kernel
theorem dX8_tab_21 : decode cX8_tab 21 = .ok (.ifCond .eq 7, 3) := by decide +kernel
theorem dX8_tab_24 : decode cX8_tab 24 = .ok (.iconst 1, 1) := by decide +kernel
theorem dX8_tab_25 : decode cX8_tab 25 = .ok (.goto 4, 3) := by decide +kernel
theorem dX8_tab_28 : decode cX8_tab 28 = .ok (.iconst 0, 1) := by decide +kernel
theorem dX8_tab_29 : decode cX8_tab 29 = .ok (.ireturn, 1) := by decide +kernel
theorem dX8_bells_0 : decode cX8_bells 0 = .ok (.aload_n 0, 1) := by decide +kernel
theorem dX8_bells_1 : decode cX8_bells 1 = .ok (.iconst 0, 1) := by decide +kernel
theorem dX8_bells_2 : decode cX8_bells 2 = .ok (.putfield 41, 3) := by decide +kernel
theorem dX8_bells_5 : decode cX8_bells 5 = .ok (.aload_n 0, 1) := by decide +kernel
theorem dX8_bells_6 : decode cX8_bells 6 = .ok (.getfield 81, 3) := by decide +kernel
theorem dX8_bells_9 : decode cX8_bells 9 = .ok (.ireturn, 1) := by decide +kernel
theorem dX8_state_0 : decode cX8_state 0 = .ok (.aload_n 0, 1) := by decide +kernel
theorem dX8_state_1 : decode cX8_state 1 = .ok (.iconst 0, 1) := by decide +kernel
theorem dX8_state_2 : decode cX8_state 2 = .ok (.putfield 41, 3) := by decide +kernel
theorem dX8_state_5 : decode cX8_state 5 = .ok (.aload_n 0, 1) := by decide +kernel
theorem dX8_state_6 : decode cX8_state 6 = .ok (.getfield 90, 3) := by decide +kernel
theorem dX8_state_9 : decode cX8_state 9 = .ok (.ireturn, 1) := by decide +kernel
theorem dX8_isCell_0 : decode cX8_isCell 0 = .ok (.iload_n 1, 1) := by decide +kernel
theorem dX8_isCell_1 : decode cX8_isCell 1 = .ok (.ifCond .lt 23, 3) := by decide +kernel
theorem dX8_isCell_4 : decode cX8_isCell 4 = .ok (.iload_n 1, 1) := by decide +kernel
theorem dX8_isCell_5 : decode cX8_isCell 5 = .ok (.bipush 8, 2) := by decide +kernel
theorem dX8_isCell_7 : decode cX8_isCell 7 = .ok (.if_icmp .ge 17, 3) := by decide +kernel
theorem dX8_isCell_10 : decode cX8_isCell 10 = .ok (.iload_n 2, 1) := by decide +kernel
theorem dX8_isCell_11 : decode cX8_isCell 11 = .ok (.ifCond .lt 13, 3) := by decide +kernel
theorem dX8_isCell_14 : decode cX8_isCell 14 = .ok (.iload_n 2, 1) := by decide +kernel
theorem dX8_isCell_15 : decode cX8_isCell 15 = .ok (.bipush 12, 2) := by decide +kernel
theorem dX8_isCell_17 : decode cX8_isCell 17 = .ok (.if_icmp .ge 7, 3) := by decide +kernel
theorem dX8_isCell_20 : decode cX8_isCell 20 = .ok (.iconst 1, 1) := by decide +kernel
theorem dX8_isCell_21 : decode cX8_isCell 21 = .ok (.goto 4, 3) := by decide +kernel
theorem dX8_isCell_24 : decode cX8_isCell 24 = .ok (.iconst 0, 1) := by decide +kernel
theorem dX8_isCell_25 : decode cX8_isCell 25 = .ok (.ireturn, 1) := by decide +kernel
theorem dX8_code_0 : decode cX8_code 0 = .ok (.aload_n 0, 1) := by decide +kernel
theorem dX8_code_1 : decode cX8_code 1 = .ok (.aload_n 0, 1) := by decide +kernel
theorem dX8_code_2 : decode cX8_code 2 = .ok (.iload_n 1, 1) := by decide +kernel
theorem dX8_code_3 : decode cX8_code 3 = .ok (.iload_n 2, 1) := by decide +kernel
theorem dX8_code_4 : decode cX8_code 4 = .ok (.invokevirtual 251, 3) := by decide +kernel
theorem dX8_code_7 : decode cX8_code 7 = .ok (.ifCond .eq 7, 3) := by decide +kernel
theorem dX8_code_10 : decode cX8_code 10 = .ok (.iconst 0, 1) := by decide +kernel
theorem dX8_code_11 : decode cX8_code 11 = .ok (.goto 4, 3) := by decide +kernel
theorem dX8_code_14 : decode cX8_code 14 = .ok (.iconst 1, 1) := by decide +kernel
theorem dX8_code_15 : decode cX8_code 15 = .ok (.putfield 41, 3) := by decide +kernel
theorem dX8_code_18 : decode cX8_code 18 = .ok (.aload_n 0, 1) := by decide +kernel
theorem dX8_code_19 : decode cX8_code 19 = .ok (.getfield 41, 3) := by decide +kernel
theorem dX8_code_22 : decode cX8_code 22 = .ok (.ifCond .le 7, 3) := by decide +kernel
theorem dX8_code_25 : decode cX8_code 25 = .ok (.iconst 0, 1) := by decide +kernel
theorem dX8_code_26 : decode cX8_code 26 = .ok (.goto 22, 3) := by decide +kernel
theorem dX8_code_29 : decode cX8_code 29 = .ok (.aload_n 0, 1) := by decide +kernel
theorem dX8_code_30 : decode cX8_code 30 = .ok (.getfield 7, 3) := by decide +kernel
theorem dX8_code_33 : decode cX8_code 33 = .ok (.bipush 96, 2) := by decide +kernel
theorem dX8_code_35 : decode cX8_code 35 = .ok (.aload_n 0, 1) := by decide +kernel
theorem dX8_code_36 : decode cX8_code 36 = .ok (.getfield 49, 3) := by decide +kernel
theorem dX8_code_39 : decode cX8_code 39 = .ok (.imul, 1) := by decide +kernel
theorem dX8_code_40 : decode cX8_code 40 = .ok (.bipush 12, 2) := by decide +kernel
theorem dX8_code_42 : decode cX8_code 42 = .ok (.iload_n 1, 1) := by decide +kernel
theorem dX8_code_43 : decode cX8_code 43 = .ok (.imul, 1) := by decide +kernel
theorem dX8_code_44 : decode cX8_code 44 = .ok (.iadd, 1) := by decide +kernel
theorem dX8_code_45 : decode cX8_code 45 = .ok (.iload_n 2, 1) := by decide +kernel
theorem dX8_code_46 : decode cX8_code 46 = .ok (.iadd, 1) := by decide +kernel
theorem dX8_code_47 : decode cX8_code 47 = .ok (.iaload, 1) := by decide +kernel
theorem dX8_code_48 : decode cX8_code 48 = .ok (.ireturn, 1) := by decide +kernel
theorem dX8_look_0 : decode cX8_look 0 = .ok (.aload_n 0, 1) := by decide +kernel
theorem dX8_look_1 : decode cX8_look 1 = .ok (.aload_n 0, 1) := by decide +kernel
theorem dX8_look_2 : decode cX8_look 2 = .ok (.iload_n 1, 1) := by decide +kernel
theorem dX8_look_3 : decode cX8_look 3 = .ok (.iload_n 2, 1) := by decide +kernel
theorem dX8_look_4 : decode cX8_look 4 = .ok (.invokevirtual 251, 3) := by decide +kernel
theorem dX8_look_7 : decode cX8_look 7 = .ok (.ifCond .eq 7, 3) := by decide +kernel
theorem dX8_look_10 : decode cX8_look 10 = .ok (.iconst 0, 1) := by decide +kernel
theorem dX8_look_11 : decode cX8_look 11 = .ok (.goto 4, 3) := by decide +kernel
theorem dX8_look_14 : decode cX8_look 14 = .ok (.iconst 1, 1) := by decide +kernel
theorem dX8_look_15 : decode cX8_look 15 = .ok (.putfield 41, 3) := by decide +kernel
theorem dX8_look_18 : decode cX8_look 18 = .ok (.aload_n 0, 1) := by decide +kernel
theorem dX8_look_19 : decode cX8_look 19 = .ok (.getfield 41, 3) := by decide +kernel
theorem dX8_look_22 : decode cX8_look 22 = .ok (.ifCond .le 7, 3) := by decide +kernel
theorem dX8_look_25 : decode cX8_look 25 = .ok (.iconst 0, 1) := by decide +kernel
theorem dX8_look_26 : decode cX8_look 26 = .ok (.goto 22, 3) := by decide +kernel
theorem dX8_look_29 : decode cX8_look 29 = .ok (.aload_n 0, 1) := by decide +kernel
theorem dX8_look_30 : decode cX8_look 30 = .ok (.getfield 13, 3) := by decide +kernel
theorem dX8_look_33 : decode cX8_look 33 = .ok (.bipush 96, 2) := by decide +kernel
theorem dX8_look_35 : decode cX8_look 35 = .ok (.aload_n 0, 1) := by decide +kernel
theorem dX8_look_36 : decode cX8_look 36 = .ok (.getfield 49, 3) := by decide +kernel
theorem dX8_look_39 : decode cX8_look 39 = .ok (.imul, 1) := by decide +kernel
theorem dX8_look_40 : decode cX8_look 40 = .ok (.bipush 12, 2) := by decide +kernel
theorem dX8_look_42 : decode cX8_look 42 = .ok (.iload_n 1, 1) := by decide +kernel
theorem dX8_look_43 : decode cX8_look 43 = .ok (.imul, 1) := by decide +kernel
theorem dX8_look_44 : decode cX8_look 44 = .ok (.iadd, 1) := by decide +kernel
theorem dX8_look_45 : decode cX8_look 45 = .ok (.iload_n 2, 1) := by decide +kernel
theorem dX8_look_46 : decode cX8_look 46 = .ok (.iadd, 1) := by decide +kernel
theorem dX8_look_47 : decode cX8_look 47 = .ok (.iaload, 1) := by decide +kernel
theorem dX8_look_48 : decode cX8_look 48 = .ok (.ireturn, 1) := by decide +kernel
theorem dX8_cells_0 : decode cX8_cells 0 = .ok (.aload_n 0, 1) := by decide +kernel
theorem dX8_cells_1 : decode cX8_cells 1 = .ok (.iconst 0, 1) := by decide +kernel
theorem dX8_cells_2 : decode cX8_cells 2 = .ok (.putfield 41, 3) := by decide +kernel
theorem dX8_cells_5 : decode cX8_cells 5 = .ok (.iconst 0, 1) := by decide +kernel
theorem dX8_cells_6 : decode cX8_cells 6 = .ok (.istore_n 3, 1) := by decide +kernel
theorem dX8_cells_7 : decode cX8_cells 7 = .ok (.bipush 96, 2) := by decide +kernel
theorem dX8_cells_9 : decode cX8_cells 9 = .ok (.aload_n 0, 1) := by decide +kernel
theorem dX8_cells_10 : decode cX8_cells 10 = .ok (.getfield 49, 3) := by decide +kernel
theorem dX8_cells_13 : decode cX8_cells 13 = .ok (.imul, 1) := by decide +kernel
theorem dX8_cells_14 : decode cX8_cells 14 = .ok (.istore 4, 2) := by decide +kernel
theorem dX8_cells_16 : decode cX8_cells 16 = .ok (.iload 4, 2) := by decide +kernel
theorem dX8_cells_18 : decode cX8_cells 18 = .ok (.bipush 96, 2) := by decide +kernel
theorem dX8_cells_20 : decode cX8_cells 20 = .ok (.aload_n 0, 1) := by decide +kernel
theorem dX8_cells_21 : decode cX8_cells 21 = .ok (.getfield 49, 3) := by decide +kernel
theorem dX8_cells_24 : decode cX8_cells 24 = .ok (.imul, 1) := by decide +kernel
theorem dX8_cells_25 : decode cX8_cells 25 = .ok (.bipush 96, 2) := by decide +kernel
theorem dX8_cells_27 : decode cX8_cells 27 = .ok (.iadd, 1) := by decide +kernel
theorem dX8_cells_28 : decode cX8_cells 28 = .ok (.if_icmp .ge 39, 3) := by decide +kernel
theorem dX8_cells_31 : decode cX8_cells 31 = .ok (.aload_n 0, 1) := by decide +kernel
theorem dX8_cells_32 : decode cX8_cells 32 = .ok (.getfield 7, 3) := by decide +kernel
theorem dX8_cells_35 : decode cX8_cells 35 = .ok (.iload 4, 2) := by decide +kernel
theorem dX8_cells_37 : decode cX8_cells 37 = .ok (.iaload, 1) := by decide +kernel
theorem dX8_cells_38 : decode cX8_cells 38 = .ok (.iload_n 1, 1) := by decide +kernel
theorem dX8_cells_39 : decode cX8_cells 39 = .ok (.if_icmp .ne 22, 3) := by decide +kernel
theorem dX8_cells_42 : decode cX8_cells 42 = .ok (.iload_n 2, 1) := by decide +kernel
theorem dX8_cells_43 : decode cX8_cells 43 = .ok (.ifCond .lt 14, 3) := by decide +kernel
theorem dX8_cells_46 : decode cX8_cells 46 = .ok (.aload_n 0, 1) := by decide +kernel
theorem dX8_cells_47 : decode cX8_cells 47 = .ok (.getfield 13, 3) := by decide +kernel
theorem dX8_cells_50 : decode cX8_cells 50 = .ok (.iload 4, 2) := by decide +kernel
theorem dX8_cells_52 : decode cX8_cells 52 = .ok (.iaload, 1) := by decide +kernel
theorem dX8_cells_53 : decode cX8_cells 53 = .ok (.iload_n 2, 1) := by decide +kernel
theorem dX8_cells_54 : decode cX8_cells 54 = .ok (.if_icmp .ne 7, 3) := by decide +kernel
theorem dX8_cells_57 : decode cX8_cells 57 = .ok (.iload_n 3, 1) := by decide +kernel
theorem dX8_cells_58 : decode cX8_cells 58 = .ok (.iconst 1, 1) := by decide +kernel
theorem dX8_cells_59 : decode cX8_cells 59 = .ok (.iadd, 1) := by decide +kernel
theorem dX8_cells_60 : decode cX8_cells 60 = .ok (.istore_n 3, 1) := by decide +kernel
theorem dX8_cells_61 : decode cX8_cells 61 = .ok (.iinc 4 1, 3) := by decide +kernel
theorem dX8_cells_64 : decode cX8_cells 64 = .ok (.goto (-48), 3) := by decide +kernel
theorem dX8_cells_67 : decode cX8_cells 67 = .ok (.iload_n 3, 1) := by decide +kernel
theorem dX8_cells_68 : decode cX8_cells 68 = .ok (.ireturn, 1) := by decide +kernel
theorem dX8_waiting_0 : decode cX8_waiting 0 = .ok (.aload_n 0, 1) := by decide +kernel
theorem dX8_waiting_1 : decode cX8_waiting 1 = .ok (.iconst 0, 1) := by decide +kernel
theorem dX8_waiting_2 : decode cX8_waiting 2 = .ok (.putfield 41, 3) := by decide +kernel
theorem dX8_waiting_5 : decode cX8_waiting 5 = .ok (.aload_n 0, 1) := by decide +kernel
theorem dX8_waiting_6 : decode cX8_waiting 6 = .ok (.getfield 84, 3) := by decide +kernel
theorem dX8_waiting_9 : decode cX8_waiting 9 = .ok (.ireturn, 1) := by decide +kernel
theorem dX8_reply_0 : decode cX8_reply 0 = .ok (.aload_n 0, 1) := by decide +kernel
theorem dX8_reply_1 : decode cX8_reply 1 = .ok (.aload_n 0, 1) := by decide +kernel
theorem dX8_reply_2 : decode cX8_reply 2 = .ok (.getfield 84, 3) := by decide +kernel
theorem dX8_reply_5 : decode cX8_reply 5 = .ok (.ifCond .le 7, 3) := by decide +kernel
theorem dX8_reply_8 : decode cX8_reply 8 = .ok (.iconst 0, 1) := by decide +kernel
theorem dX8_reply_9 : decode cX8_reply 9 = .ok (.goto 4, 3) := by decide +kernel
theorem dX8_reply_12 : decode cX8_reply 12 = .ok (.iconst 1, 1) := by decide +kernel
theorem dX8_reply_13 : decode cX8_reply 13 = .ok (.putfield 41, 3) := by decide +kernel
theorem dX8_reply_16 : decode cX8_reply 16 = .ok (.aload_n 0, 1) := by decide +kernel
theorem dX8_reply_17 : decode cX8_reply 17 = .ok (.getfield 41, 3) := by decide +kernel
theorem dX8_reply_20 : decode cX8_reply 20 = .ok (.ifCond .le 5, 3) := by decide +kernel
theorem dX8_reply_23 : decode cX8_reply 23 = .ok (.iconst 0, 1) := by decide +kernel
theorem dX8_reply_24 : decode cX8_reply 24 = .ok (.ireturn, 1) := by decide +kernel
theorem dX8_reply_25 : decode cX8_reply 25 = .ok (.aload_n 0, 1) := by decide +kernel
theorem dX8_reply_26 : decode cX8_reply 26 = .ok (.getfield 26, 3) := by decide +kernel
theorem dX8_reply_29 : decode cX8_reply 29 = .ok (.iconst 0, 1) := by decide +kernel
theorem dX8_reply_30 : decode cX8_reply 30 = .ok (.iaload, 1) := by decide +kernel
theorem dX8_reply_31 : decode cX8_reply 31 = .ok (.istore_n 1, 1) := by decide +kernel
theorem dX8_reply_32 : decode cX8_reply 32 = .ok (.aload_n 0, 1) := by decide +kernel
theorem dX8_reply_33 : decode cX8_reply 33 = .ok (.aload_n 0, 1) := by decide +kernel
theorem dX8_reply_34 : decode cX8_reply 34 = .ok (.getfield 84, 3) := by decide +kernel
theorem dX8_reply_37 : decode cX8_reply 37 = .ok (.iconst 1, 1) := by decide +kernel
theorem dX8_reply_38 : decode cX8_reply 38 = .ok (.isub, 1) := by decide +kernel
theorem dX8_reply_39 : decode cX8_reply 39 = .ok (.putfield 84, 3) := by decide +kernel
theorem dX8_reply_42 : decode cX8_reply 42 = .ok (.iconst 0, 1) := by decide +kernel
theorem dX8_reply_43 : decode cX8_reply 43 = .ok (.istore_n 2, 1) := by decide +kernel
theorem dX8_reply_44 : decode cX8_reply 44 = .ok (.iload_n 2, 1) := by decide +kernel
theorem dX8_reply_45 : decode cX8_reply 45 = .ok (.aload_n 0, 1) := by decide +kernel
theorem dX8_reply_46 : decode cX8_reply 46 = .ok (.getfield 84, 3) := by decide +kernel
theorem dX8_reply_49 : decode cX8_reply 49 = .ok (.if_icmp .ge 23, 3) := by decide +kernel
theorem dX8_reply_52 : decode cX8_reply 52 = .ok (.aload_n 0, 1) := by decide +kernel
theorem dX8_reply_53 : decode cX8_reply 53 = .ok (.getfield 26, 3) := by decide +kernel
theorem dX8_reply_56 : decode cX8_reply 56 = .ok (.iload_n 2, 1) := by decide +kernel
theorem dX8_reply_57 : decode cX8_reply 57 = .ok (.aload_n 0, 1) := by decide +kernel
theorem dX8_reply_58 : decode cX8_reply 58 = .ok (.getfield 26, 3) := by decide +kernel
theorem dX8_reply_61 : decode cX8_reply 61 = .ok (.iload_n 2, 1) := by decide +kernel
theorem dX8_reply_62 : decode cX8_reply 62 = .ok (.iconst 1, 1) := by decide +kernel
theorem dX8_reply_63 : decode cX8_reply 63 = .ok (.iadd, 1) := by decide +kernel
theorem dX8_reply_64 : decode cX8_reply 64 = .ok (.iaload, 1) := by decide +kernel
theorem dX8_reply_65 : decode cX8_reply 65 = .ok (.iastore, 1) := by decide +kernel
theorem dX8_reply_66 : decode cX8_reply 66 = .ok (.iinc 2 1, 3) := by decide +kernel
theorem dX8_reply_69 : decode cX8_reply 69 = .ok (.goto (-25), 3) := by decide +kernel
theorem dX8_reply_72 : decode cX8_reply 72 = .ok (.iload_n 1, 1) := by decide +kernel
theorem dX8_reply_73 : decode cX8_reply 73 = .ok (.ireturn, 1) := by decide +kernel
theorem dX8_title_0 : decode cX8_title 0 = .ok (.aload_n 0, 1) := by decide +kernel
theorem dX8_title_1 : decode cX8_title 1 = .ok (.iconst 0, 1) := by decide +kernel
theorem dX8_title_2 : decode cX8_title 2 = .ok (.putfield 41, 3) := by decide +kernel
theorem dX8_title_5 : decode cX8_title 5 = .ok (.iload_n 1, 1) := by decide +kernel
theorem dX8_title_6 : decode cX8_title 6 = .ok (.ifCond .lt 20, 3) := by decide +kernel
theorem dX8_title_9 : decode cX8_title 9 = .ok (.iload_n 1, 1) := by decide +kernel
theorem dX8_title_10 : decode cX8_title 10 = .ok (.aload_n 0, 1) := by decide +kernel
theorem dX8_title_11 : decode cX8_title 11 = .ok (.getfield 87, 3) := by decide +kernel
theorem dX8_title_14 : decode cX8_title 14 = .ok (.if_icmp .ge 12, 3) := by decide +kernel
theorem dX8_title_17 : decode cX8_title 17 = .ok (.aload_n 0, 1) := by decide +kernel
theorem dX8_title_18 : decode cX8_title 18 = .ok (.getfield 29, 3) := by decide +kernel
theorem dX8_title_21 : decode cX8_title 21 = .ok (.iload_n 1, 1) := by decide +kernel
theorem dX8_title_22 : decode cX8_title 22 = .ok (.iaload, 1) := by decide +kernel
theorem dX8_title_23 : decode cX8_title 23 = .ok (.goto 4, 3) := by decide +kernel
theorem dX8_title_26 : decode cX8_title 26 = .ok (.iconst (-1), 1) := by decide +kernel
theorem dX8_title_27 : decode cX8_title 27 = .ok (.ireturn, 1) := by decide +kernel
