theorem dX0_init_0 : decode cX0_init 0 = .ok (.aload_n 0, 1) := by decide +kernel
theorem dX0_init_1 : decode cX0_init 1 = .ok (.invokespecial 3, 3) := by decide +kernel
theorem dX0_init_4 : decode cX0_init 4 = .ok (.return_, 1) := by decide +kernel
theorem dX0_reset_0 : decode cX0_reset 0 = .ok (.aload_n 0, 1) := by decide +kernel
theorem dX0_reset_1 : decode cX0_reset 1 = .ok (.iconst 0, 1) := by decide +kernel
theorem dX0_reset_2 : decode cX0_reset 2 = .ok (.iconst 0, 1) := by decide +kernel
theorem dX0_reset_3 : decode cX0_reset 3 = .ok (.invokevirtual 9, 3) := by decide +kernel
theorem dX0_reset_6 : decode cX0_reset 6 = .ok (.aload_n 0, 1) := by decide +kernel
theorem dX0_reset_7 : decode cX0_reset 7 = .ok (.iconst 0, 1) := by decide +kernel
theorem dX0_reset_8 : decode cX0_reset 8 = .ok (.putfield 15, 3) := by decide +kernel
theorem dX0_reset_11 : decode cX0_reset 11 = .ok (.aload_n 0, 1) := by decide +kernel
theorem dX0_reset_12 : decode cX0_reset 12 = .ok (.iconst 0, 1) := by decide +kernel
theorem dX0_reset_13 : decode cX0_reset 13 = .ok (.putfield 19, 3) := by decide +kernel
theorem dX0_reset_16 : decode cX0_reset 16 = .ok (.return_, 1) := by decide +kernel
theorem dX0_copyFrom_0 : decode cX0_copyFrom 0 = .ok (.aload_n 1, 1) := by decide +kernel
theorem dX0_copyFrom_1 : decode cX0_copyFrom 1 = .ok (.ifnonnull 4, 3) := by decide +kernel
theorem dX0_copyFrom_4 : decode cX0_copyFrom 4 = .ok (.return_, 1) := by decide +kernel
theorem dX0_copyFrom_5 : decode cX0_copyFrom 5 = .ok (.aload_n 0, 1) := by decide +kernel
theorem dX0_copyFrom_6 : decode cX0_copyFrom 6 = .ok (.aload_n 1, 1) := by decide +kernel
theorem dX0_copyFrom_7 : decode cX0_copyFrom 7 = .ok (.getfield 23, 3) := by decide +kernel
theorem dX0_copyFrom_10 : decode cX0_copyFrom 10 = .ok (.putfield 23, 3) := by decide +kernel
theorem dX0_copyFrom_13 : decode cX0_copyFrom 13 = .ok (.aload_n 0, 1) := by decide +kernel
theorem dX0_copyFrom_14 : decode cX0_copyFrom 14 = .ok (.aload_n 1, 1) := by decide +kernel
theorem dX0_copyFrom_15 : decode cX0_copyFrom 15 = .ok (.getfield 26, 3) := by decide +kernel
theorem dX0_copyFrom_18 : decode cX0_copyFrom 18 = .ok (.putfield 26, 3) := by decide +kernel
theorem dX0_copyFrom_21 : decode cX0_copyFrom 21 = .ok (.aload_n 0, 1) := by decide +kernel
theorem dX0_copyFrom_22 : decode cX0_copyFrom 22 = .ok (.aload_n 1, 1) := by decide +kernel
theorem dX0_copyFrom_23 : decode cX0_copyFrom 23 = .ok (.getfield 29, 3) := by decide +kernel
theorem dX0_copyFrom_26 : decode cX0_copyFrom 26 = .ok (.putfield 29, 3) := by decide +kernel
theorem dX0_copyFrom_29 : decode cX0_copyFrom 29 = .ok (.aload_n 0, 1) := by decide +kernel
theorem dX0_copyFrom_30 : decode cX0_copyFrom 30 = .ok (.aload_n 1, 1) := by decide +kernel
theorem dX0_copyFrom_31 : decode cX0_copyFrom 31 = .ok (.getfield 15, 3) := by decide +kernel
theorem dX0_copyFrom_34 : decode cX0_copyFrom 34 = .ok (.putfield 15, 3) := by decide +kernel
theorem dX0_copyFrom_37 : decode cX0_copyFrom 37 = .ok (.aload_n 0, 1) := by decide +kernel
theorem dX0_copyFrom_38 : decode cX0_copyFrom 38 = .ok (.aload_n 1, 1) := by decide +kernel
theorem dX0_copyFrom_39 : decode cX0_copyFrom 39 = .ok (.getfield 19, 3) := by decide +kernel
theorem dX0_copyFrom_42 : decode cX0_copyFrom 42 = .ok (.putfield 19, 3) := by decide +kernel
theorem dX0_copyFrom_45 : decode cX0_copyFrom 45 = .ok (.return_, 1) := by decide +kernel
theorem dX0_place_0 : decode cX0_place 0 = .ok (.aload_n 0, 1) := by decide +kernel
theorem dX0_place_1 : decode cX0_place 1 = .ok (.iload_n 1, 1) := by decide +kernel
theorem dX0_place_2 : decode cX0_place 2 = .ok (.putfield 23, 3) := by decide +kernel
theorem dX0_place_5 : decode cX0_place 5 = .ok (.aload_n 0, 1) := by decide +kernel
theorem dX0_place_6 : decode cX0_place 6 = .ok (.iload_n 2, 1) := by decide +kernel
theorem dX0_place_7 : decode cX0_place 7 = .ok (.putfield 26, 3) := by decide +kernel
theorem dX0_place_10 : decode cX0_place 10 = .ok (.aload_n 0, 1) := by decide +kernel
theorem dX0_place_11 : decode cX0_place 11 = .ok (.iconst 0, 1) := by decide +kernel
theorem dX0_place_12 : decode cX0_place 12 = .ok (.putfield 29, 3) := by decide +kernel
theorem dX0_place_15 : decode cX0_place 15 = .ok (.return_, 1) := by decide +kernel
theorem dX0_paint_0 : decode cX0_paint 0 = .ok (.iload_n 1, 1) := by decide +kernel
theorem dX0_paint_1 : decode cX0_paint 1 = .ok (.lookupswitch 188 #[(0, 83), (1, 91), (4, 104), (7, 117), (22, 130), (24, 144), (27, 158), (39, 172), (49, 180)], 83) := by decide +kernel
theorem dX0_paint_84 : decode cX0_paint 84 = .ok (.aload_n 0, 1) := by decide +kernel
theorem dX0_paint_85 : decode cX0_paint 85 = .ok (.iconst 0, 1) := by decide +kernel
theorem dX0_paint_86 : decode cX0_paint 86 = .ok (.putfield 15, 3) := by decide +kernel
theorem dX0_paint_89 : decode cX0_paint 89 = .ok (.goto 105, 3) := by decide +kernel
theorem dX0_paint_92 : decode cX0_paint 92 = .ok (.aload_n 0, 1) := by decide +kernel
theorem dX0_paint_93 : decode cX0_paint 93 = .ok (.dup, 1) := by decide +kernel
theorem dX0_paint_94 : decode cX0_paint 94 = .ok (.getfield 15, 3) := by decide +kernel
theorem dX0_paint_97 : decode cX0_paint 97 = .ok (.iconst 1, 1) := by decide +kernel
theorem dX0_paint_98 : decode cX0_paint 98 = .ok (.ior, 1) := by decide +kernel
theorem dX0_paint_99 : decode cX0_paint 99 = .ok (.putfield 15, 3) := by decide +kernel
theorem dX0_paint_102 : decode cX0_paint 102 = .ok (.goto 92, 3) := by decide +kernel
theorem dX0_paint_105 : decode cX0_paint 105 = .ok (.aload_n 0, 1) := by decide +kernel
theorem dX0_paint_106 : decode cX0_paint 106 = .ok (.dup, 1) := by decide +kernel
theorem dX0_paint_107 : decode cX0_paint 107 = .ok (.getfield 15, 3) := by decide +kernel
theorem dX0_paint_110 : decode cX0_paint 110 = .ok (.iconst 2, 1) := by decide +kernel
theorem dX0_paint_111 : decode cX0_paint 111 = .ok (.ior, 1) := by decide +kernel
theorem dX0_paint_112 : decode cX0_paint 112 = .ok (.putfield 15, 3) := by decide +kernel
theorem dX0_paint_115 : decode cX0_paint 115 = .ok (.goto 79, 3) := by decide +kernel
theorem dX0_paint_118 : decode cX0_paint 118 = .ok (.aload_n 0, 1) := by decide +kernel
theorem dX0_paint_119 : decode cX0_paint 119 = .ok (.dup, 1) := by decide +kernel
theorem dX0_paint_120 : decode cX0_paint 120 = .ok (.getfield 15, 3) := by decide +kernel
theorem dX0_paint_123 : decode cX0_paint 123 = .ok (.iconst 4, 1) := by decide +kernel
theorem dX0_paint_124 : decode cX0_paint 124 = .ok (.ior, 1) := by decide +kernel
theorem dX0_paint_125 : decode cX0_paint 125 = .ok (.putfield 15, 3) := by decide +kernel
theorem dX0_paint_128 : decode cX0_paint 128 = .ok (.goto 66, 3) := by decide +kernel
theorem dX0_paint_131 : decode cX0_paint 131 = .ok (.aload_n 0, 1) := by decide +kernel
theorem dX0_paint_132 : decode cX0_paint 132 = .ok (.dup, 1) := by decide +kernel
theorem dX0_paint_133 : decode cX0_paint 133 = .ok (.getfield 15, 3) := by decide +kernel
theorem dX0_paint_136 : decode cX0_paint 136 = .ok (.bipush (-2), 2) := by decide +kernel
theorem dX0_paint_138 : decode cX0_paint 138 = .ok (.iand, 1) := by decide +kernel
theorem dX0_paint_139 : decode cX0_paint 139 = .ok (.putfield 15, 3) := by decide +kernel
theorem dX0_paint_142 : decode cX0_paint 142 = .ok (.goto 52, 3) := by decide +kernel
theorem dX0_paint_145 : decode cX0_paint 145 = .ok (.aload_n 0, 1) := by decide +kernel
theorem dX0_paint_146 : decode cX0_paint 146 = .ok (.dup, 1) := by decide +kernel
theorem dX0_paint_147 : decode cX0_paint 147 = .ok (.getfield 15, 3) := by decide +kernel
theorem dX0_paint_150 : decode cX0_paint 150 = .ok (.bipush (-3), 2) := by decide +kernel
theorem dX0_paint_152 : decode cX0_paint 152 = .ok (.iand, 1) := by decide +kernel
theorem dX0_paint_153 : decode cX0_paint 153 = .ok (.putfield 15, 3) := by decide +kernel
theorem dX0_paint_156 : decode cX0_paint 156 = .ok (.goto 38, 3) := by decide +kernel
theorem dX0_paint_159 : decode cX0_paint 159 = .ok (.aload_n 0, 1) := by decide +kernel
theorem dX0_paint_160 : decode cX0_paint 160 = .ok (.dup, 1) := by decide +kernel
theorem dX0_paint_161 : decode cX0_paint 161 = .ok (.getfield 15, 3) := by decide +kernel
theorem dX0_paint_164 : decode cX0_paint 164 = .ok (.bipush (-5), 2) := by decide +kernel
theorem dX0_paint_166 : decode cX0_paint 166 = .ok (.iand, 1) := by decide +kernel
theorem dX0_paint_167 : decode cX0_paint 167 = .ok (.putfield 15, 3) := by decide +kernel
theorem dX0_paint_170 : decode cX0_paint 170 = .ok (.goto 24, 3) := by decide +kernel
theorem dX0_paint_173 : decode cX0_paint 173 = .ok (.aload_n 0, 1) := by decide +kernel
theorem dX0_paint_174 : decode cX0_paint 174 = .ok (.iconst 0, 1) := by decide +kernel
theorem dX0_paint_175 : decode cX0_paint 175 = .ok (.invokevirtual 32, 3) := by decide +kernel
theorem dX0_paint_178 : decode cX0_paint 178 = .ok (.goto 16, 3) := by decide +kernel
theorem dX0_paint_181 : decode cX0_paint 181 = .ok (.aload_n 0, 1) := by decide +kernel
theorem dX0_paint_182 : decode cX0_paint 182 = .ok (.iconst 0, 1) := by decide +kernel
theorem dX0_paint_183 : decode cX0_paint 183 = .ok (.invokevirtual 36, 3) := by decide +kernel
theorem dX0_paint_186 : decode cX0_paint 186 = .ok (.goto 8, 3) := by decide +kernel
theorem dX0_paint_189 : decode cX0_paint 189 = .ok (.aload_n 0, 1) := by decide +kernel
theorem dX0_paint_190 : decode cX0_paint 190 = .ok (.iload_n 1, 1) := by decide +kernel
theorem dX0_paint_191 : decode cX0_paint 191 = .ok (.invokevirtual 39, 3) := by decide +kernel
theorem dX0_paint_194 : decode cX0_paint 194 = .ok (.return_, 1) := by decide +kernel
theorem dX0_paintColour_0 : decode cX0_paintColour 0 = .ok (.iload_n 1, 1) := by decide +kernel
theorem dX0_paintColour_1 : decode cX0_paintColour 1 = .ok (.bipush 30, 2) := by decide +kernel
theorem dX0_paintColour_3 : decode cX0_paintColour 3 = .ok (.if_icmp .lt 20, 3) := by decide +kernel
theorem dX0_paintColour_6 : decode cX0_paintColour 6 = .ok (.iload_n 1, 1) := by decide +kernel
theorem dX0_paintColour_7 : decode cX0_paintColour 7 = .ok (.bipush 37, 2) := by decide +kernel
theorem dX0_paintColour_9 : decode cX0_paintColour 9 = .ok (.if_icmp .gt 14, 3) := by decide +kernel
theorem dX0_paintColour_12 : decode cX0_paintColour 12 = .ok (.aload_n 0, 1) := by decide +kernel
theorem dX0_paintColour_13 : decode cX0_paintColour 13 = .ok (.iload_n 1, 1) := by decide +kernel
theorem dX0_paintColour_14 : decode cX0_paintColour 14 = .ok (.bipush 29, 2) := by decide +kernel
theorem dX0_paintColour_16 : decode cX0_paintColour 16 = .ok (.isub, 1) := by decide +kernel
theorem dX0_paintColour_17 : decode cX0_paintColour 17 = .ok (.invokevirtual 32, 3) := by decide +kernel
theorem dX0_paintColour_20 : decode cX0_paintColour 20 = .ok (.goto 23, 3) := by decide +kernel
theorem dX0_paintColour_23 : decode cX0_paintColour 23 = .ok (.iload_n 1, 1) := by decide +kernel
theorem dX0_paintColour_24 : decode cX0_paintColour 24 = .ok (.bipush 40, 2) := by decide +kernel
theorem dX0_paintColour_26 : decode cX0_paintColour 26 = .ok (.if_icmp .lt 17, 3) := by decide +kernel
theorem dX0_paintColour_29 : decode cX0_paintColour 29 = .ok (.iload_n 1, 1) := by decide +kernel
theorem dX0_paintColour_30 : decode cX0_paintColour 30 = .ok (.bipush 47, 2) := by decide +kernel
theorem dX0_paintColour_32 : decode cX0_paintColour 32 = .ok (.if_icmp .gt 11, 3) := by decide +kernel
theorem dX0_paintColour_35 : decode cX0_paintColour 35 = .ok (.aload_n 0, 1) := by decide +kernel
theorem dX0_paintColour_36 : decode cX0_paintColour 36 = .ok (.iload_n 1, 1) := by decide +kernel
theorem dX0_paintColour_37 : decode cX0_paintColour 37 = .ok (.bipush 39, 2) := by decide +kernel
theorem dX0_paintColour_39 : decode cX0_paintColour 39 = .ok (.isub, 1) := by decide +kernel
theorem dX0_paintColour_40 : decode cX0_paintColour 40 = .ok (.invokevirtual 36, 3) := by decide +kernel
theorem dX0_paintColour_43 : decode cX0_paintColour 43 = .ok (.return_, 1) := by decide +kernel
theorem dX0_setColour_0 : decode cX0_setColour 0 = .ok (.aload_n 0, 1) := by decide +kernel
theorem dX0_setColour_1 : decode cX0_setColour 1 = .ok (.aload_n 0, 1) := by decide +kernel
theorem dX0_setColour_2 : decode cX0_setColour 2 = .ok (.getfield 15, 3) := by decide +kernel
theorem dX0_setColour_5 : decode cX0_setColour 5 = .ok (.bipush (-121), 2) := by decide +kernel
theorem dX0_setColour_7 : decode cX0_setColour 7 = .ok (.iand, 1) := by decide +kernel
theorem dX0_setColour_8 : decode cX0_setColour 8 = .ok (.iload_n 1, 1) := by decide +kernel
theorem dX0_setColour_9 : decode cX0_setColour 9 = .ok (.bipush 8, 2) := by decide +kernel
theorem dX0_setColour_11 : decode cX0_setColour 11 = .ok (.imul, 1) := by decide +kernel
theorem dX0_setColour_12 : decode cX0_setColour 12 = .ok (.ior, 1) := by decide +kernel
theorem dX0_setColour_13 : decode cX0_setColour 13 = .ok (.putfield 15, 3) := by decide +kernel
theorem dX0_setColour_16 : decode cX0_setColour 16 = .ok (.return_, 1) := by decide +kernel
theorem dX0_setGround_0 : decode cX0_setGround 0 = .ok (.aload_n 0, 1) := by decide +kernel
theorem dX0_setGround_1 : decode cX0_setGround 1 = .ok (.aload_n 0, 1) := by decide +kernel
theorem dX0_setGround_2 : decode cX0_setGround 2 = .ok (.getfield 15, 3) := by decide +kernel
theorem dX0_setGround_5 : decode cX0_setGround 5 = .ok (.sipush (-1921), 3) := by decide +kernel
theorem dX0_setGround_8 : decode cX0_setGround 8 = .ok (.iand, 1) := by decide +kernel
theorem dX0_setGround_9 : decode cX0_setGround 9 = .ok (.iload_n 1, 1) := by decide +kernel
theorem dX0_setGround_10 : decode cX0_setGround 10 = .ok (.sipush 128, 3) := by decide +kernel
theorem dX0_setGround_13 : decode cX0_setGround 13 = .ok (.imul, 1) := by decide +kernel
theorem dX0_setGround_14 : decode cX0_setGround 14 = .ok (.ior, 1) := by decide +kernel
theorem dX0_setGround_15 : decode cX0_setGround 15 = .ok (.putfield 15, 3) := by decide +kernel
theorem dX0_setGround_18 : decode cX0_setGround 18 = .ok (.return_, 1) := by decide +kernel
