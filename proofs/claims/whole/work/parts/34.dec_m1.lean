theorem dX10_init_0 : decode cX10_init 0 = .ok (.aload_n 0, 1) := by decide +kernel
theorem dX10_init_1 : decode cX10_init 1 = .ok (.invokespecial 1, 3) := by decide +kernel
theorem dX10_init_4 : decode cX10_init 4 = .ok (.aload_n 0, 1) := by decide +kernel
theorem dX10_init_5 : decode cX10_init 5 = .ok (.bipush 10, 2) := by decide +kernel
theorem dX10_init_7 : decode cX10_init 7 = .ok (.newarray .int, 2) := by decide +kernel
theorem dX10_init_9 : decode cX10_init 9 = .ok (.putfield 7, 3) := by decide +kernel
theorem dX10_init_12 : decode cX10_init 12 = .ok (.aload_n 0, 1) := by decide +kernel
theorem dX10_init_13 : decode cX10_init 13 = .ok (.bipush 10, 2) := by decide +kernel
theorem dX10_init_15 : decode cX10_init 15 = .ok (.newarray .boolean, 2) := by decide +kernel
theorem dX10_init_17 : decode cX10_init 17 = .ok (.putfield 13, 3) := by decide +kernel
theorem dX10_init_20 : decode cX10_init 20 = .ok (.aload_n 0, 1) := by decide +kernel
theorem dX10_init_21 : decode cX10_init 21 = .ok (.bipush 10, 2) := by decide +kernel
theorem dX10_init_23 : decode cX10_init 23 = .ok (.newarray .int, 2) := by decide +kernel
theorem dX10_init_25 : decode cX10_init 25 = .ok (.putfield 17, 3) := by decide +kernel
theorem dX10_init_28 : decode cX10_init 28 = .ok (.aload_n 0, 1) := by decide +kernel
theorem dX10_init_29 : decode cX10_init 29 = .ok (.bipush 24, 2) := by decide +kernel
theorem dX10_init_31 : decode cX10_init 31 = .ok (.newarray .int, 2) := by decide +kernel
theorem dX10_init_33 : decode cX10_init 33 = .ok (.putfield 20, 3) := by decide +kernel
theorem dX10_init_36 : decode cX10_init 36 = .ok (.aload_n 0, 1) := by decide +kernel
theorem dX10_init_37 : decode cX10_init 37 = .ok (.sipush 144, 3) := by decide +kernel
theorem dX10_init_40 : decode cX10_init 40 = .ok (.newarray .int, 2) := by decide +kernel
theorem dX10_init_42 : decode cX10_init 42 = .ok (.putfield 23, 3) := by decide +kernel
theorem dX10_init_45 : decode cX10_init 45 = .ok (.aload_n 0, 1) := by decide +kernel
theorem dX10_init_46 : decode cX10_init 46 = .ok (.sipush 144, 3) := by decide +kernel
theorem dX10_init_49 : decode cX10_init 49 = .ok (.newarray .int, 2) := by decide +kernel
theorem dX10_init_51 : decode cX10_init 51 = .ok (.putfield 26, 3) := by decide +kernel
theorem dX10_init_54 : decode cX10_init 54 = .ok (.aload_n 0, 1) := by decide +kernel
theorem dX10_init_55 : decode cX10_init 55 = .ok (.sipush 144, 3) := by decide +kernel
theorem dX10_init_58 : decode cX10_init 58 = .ok (.newarray .int, 2) := by decide +kernel
theorem dX10_init_60 : decode cX10_init 60 = .ok (.putfield 29, 3) := by decide +kernel
theorem dX10_init_63 : decode cX10_init 63 = .ok (.aload_n 0, 1) := by decide +kernel
theorem dX10_init_64 : decode cX10_init 64 = .ok (.bipush 24, 2) := by decide +kernel
theorem dX10_init_66 : decode cX10_init 66 = .ok (.newarray .int, 2) := by decide +kernel
theorem dX10_init_68 : decode cX10_init 68 = .ok (.putfield 32, 3) := by decide +kernel
theorem dX10_init_71 : decode cX10_init 71 = .ok (.aload_n 0, 1) := by decide +kernel
theorem dX10_init_72 : decode cX10_init 72 = .ok (.sipush 144, 3) := by decide +kernel
theorem dX10_init_75 : decode cX10_init 75 = .ok (.newarray .int, 2) := by decide +kernel
theorem dX10_init_77 : decode cX10_init 77 = .ok (.putfield 35, 3) := by decide +kernel
theorem dX10_init_80 : decode cX10_init 80 = .ok (.aload_n 0, 1) := by decide +kernel
theorem dX10_init_81 : decode cX10_init 81 = .ok (.sipush 144, 3) := by decide +kernel
theorem dX10_init_84 : decode cX10_init 84 = .ok (.newarray .int, 2) := by decide +kernel
theorem dX10_init_86 : decode cX10_init 86 = .ok (.putfield 38, 3) := by decide +kernel
theorem dX10_init_89 : decode cX10_init 89 = .ok (.aload_n 0, 1) := by decide +kernel
theorem dX10_init_90 : decode cX10_init 90 = .ok (.sipush 144, 3) := by decide +kernel
theorem dX10_init_93 : decode cX10_init 93 = .ok (.newarray .int, 2) := by decide +kernel
theorem dX10_init_95 : decode cX10_init 95 = .ok (.putfield 41, 3) := by decide +kernel
theorem dX10_init_98 : decode cX10_init 98 = .ok (.aload_n 0, 1) := by decide +kernel
theorem dX10_init_99 : decode cX10_init 99 = .ok (.bipush 24, 2) := by decide +kernel
theorem dX10_init_101 : decode cX10_init 101 = .ok (.newarray .int, 2) := by decide +kernel
theorem dX10_init_103 : decode cX10_init 103 = .ok (.putfield 44, 3) := by decide +kernel
theorem dX10_init_106 : decode cX10_init 106 = .ok (.aload_n 0, 1) := by decide +kernel
theorem dX10_init_107 : decode cX10_init 107 = .ok (.bipush 24, 2) := by decide +kernel
theorem dX10_init_109 : decode cX10_init 109 = .ok (.newarray .int, 2) := by decide +kernel
theorem dX10_init_111 : decode cX10_init 111 = .ok (.putfield 47, 3) := by decide +kernel
theorem dX10_init_114 : decode cX10_init 114 = .ok (.aload_n 0, 1) := by decide +kernel
theorem dX10_init_115 : decode cX10_init 115 = .ok (.bipush 8, 2) := by decide +kernel
theorem dX10_init_117 : decode cX10_init 117 = .ok (.newarray .int, 2) := by decide +kernel
theorem dX10_init_119 : decode cX10_init 119 = .ok (.putfield 50, 3) := by decide +kernel
theorem dX10_init_122 : decode cX10_init 122 = .ok (.aload_n 0, 1) := by decide +kernel
theorem dX10_init_123 : decode cX10_init 123 = .ok (.bipush 48, 2) := by decide +kernel
theorem dX10_init_125 : decode cX10_init 125 = .ok (.newarray .int, 2) := by decide +kernel
theorem dX10_init_127 : decode cX10_init 127 = .ok (.putfield 53, 3) := by decide +kernel
theorem dX10_init_130 : decode cX10_init 130 = .ok (.aload_n 0, 1) := by decide +kernel
theorem dX10_init_131 : decode cX10_init 131 = .ok (.bipush 6, 2) := by decide +kernel
theorem dX10_init_133 : decode cX10_init 133 = .ok (.newarray .int, 2) := by decide +kernel
theorem dX10_init_135 : decode cX10_init 135 = .ok (.putfield 56, 3) := by decide +kernel
theorem dX10_init_138 : decode cX10_init 138 = .ok (.aload_n 0, 1) := by decide +kernel
theorem dX10_init_139 : decode cX10_init 139 = .ok (.iconst 4, 1) := by decide +kernel
theorem dX10_init_140 : decode cX10_init 140 = .ok (.newarray .int, 2) := by decide +kernel
theorem dX10_init_142 : decode cX10_init 142 = .ok (.putfield 59, 3) := by decide +kernel
theorem dX10_init_145 : decode cX10_init 145 = .ok (.aload_n 0, 1) := by decide +kernel
theorem dX10_init_146 : decode cX10_init 146 = .ok (.iconst 4, 1) := by decide +kernel
theorem dX10_init_147 : decode cX10_init 147 = .ok (.newarray .int, 2) := by decide +kernel
theorem dX10_init_149 : decode cX10_init 149 = .ok (.putfield 62, 3) := by decide +kernel
theorem dX10_init_152 : decode cX10_init 152 = .ok (.aload_n 0, 1) := by decide +kernel
theorem dX10_init_153 : decode cX10_init 153 = .ok (.iconst 4, 1) := by decide +kernel
theorem dX10_init_154 : decode cX10_init 154 = .ok (.newarray .int, 2) := by decide +kernel
theorem dX10_init_156 : decode cX10_init 156 = .ok (.putfield 65, 3) := by decide +kernel
theorem dX10_init_159 : decode cX10_init 159 = .ok (.aload_n 0, 1) := by decide +kernel
theorem dX10_init_160 : decode cX10_init 160 = .ok (.bipush 10, 2) := by decide +kernel
theorem dX10_init_162 : decode cX10_init 162 = .ok (.newarray .int, 2) := by decide +kernel
theorem dX10_init_164 : decode cX10_init 164 = .ok (.putfield 68, 3) := by decide +kernel
theorem dX10_init_167 : decode cX10_init 167 = .ok (.aload_n 0, 1) := by decide +kernel
theorem dX10_init_168 : decode cX10_init 168 = .ok (.bipush 10, 2) := by decide +kernel
theorem dX10_init_170 : decode cX10_init 170 = .ok (.newarray .int, 2) := by decide +kernel
theorem dX10_init_172 : decode cX10_init 172 = .ok (.putfield 71, 3) := by decide +kernel
theorem dX10_init_175 : decode cX10_init 175 = .ok (.aload_n 0, 1) := by decide +kernel
theorem dX10_init_176 : decode cX10_init 176 = .ok (.sipush 1501, 3) := by decide +kernel
theorem dX10_init_179 : decode cX10_init 179 = .ok (.newarray .long, 2) := by decide +kernel
theorem dX10_init_181 : decode cX10_init 181 = .ok (.putfield 74, 3) := by decide +kernel
theorem dX10_init_184 : decode cX10_init 184 = .ok (.aload_n 0, 1) := by decide +kernel
theorem dX10_init_185 : decode cX10_init 185 = .ok (.sipush 1501, 3) := by decide +kernel
theorem dX10_init_188 : decode cX10_init 188 = .ok (.newarray .int, 2) := by decide +kernel
theorem dX10_init_190 : decode cX10_init 190 = .ok (.putfield 78, 3) := by decide +kernel
theorem dX10_init_193 : decode cX10_init 193 = .ok (.aload_n 0, 1) := by decide +kernel
theorem dX10_init_194 : decode cX10_init 194 = .ok (.sipush 1501, 3) := by decide +kernel
theorem dX10_init_197 : decode cX10_init 197 = .ok (.newarray .int, 2) := by decide +kernel
theorem dX10_init_199 : decode cX10_init 199 = .ok (.putfield 81, 3) := by decide +kernel
theorem dX10_init_202 : decode cX10_init 202 = .ok (.aload_n 0, 1) := by decide +kernel
theorem dX10_init_203 : decode cX10_init 203 = .ok (.sipush 1501, 3) := by decide +kernel
theorem dX10_init_206 : decode cX10_init 206 = .ok (.newarray .int, 2) := by decide +kernel
theorem dX10_init_208 : decode cX10_init 208 = .ok (.putfield 84, 3) := by decide +kernel
theorem dX10_init_211 : decode cX10_init 211 = .ok (.aload_n 0, 1) := by decide +kernel
theorem dX10_init_212 : decode cX10_init 212 = .ok (.sipush 1501, 3) := by decide +kernel
theorem dX10_init_215 : decode cX10_init 215 = .ok (.newarray .int, 2) := by decide +kernel
theorem dX10_init_217 : decode cX10_init 217 = .ok (.putfield 87, 3) := by decide +kernel
theorem dX10_init_220 : decode cX10_init 220 = .ok (.aload_n 0, 1) := by decide +kernel
theorem dX10_init_221 : decode cX10_init 221 = .ok (.sipush 1501, 3) := by decide +kernel
theorem dX10_init_224 : decode cX10_init 224 = .ok (.newarray .int, 2) := by decide +kernel
theorem dX10_init_226 : decode cX10_init 226 = .ok (.putfield 90, 3) := by decide +kernel
theorem dX10_init_229 : decode cX10_init 229 = .ok (.aload_n 0, 1) := by decide +kernel
theorem dX10_init_230 : decode cX10_init 230 = .ok (.sipush 1501, 3) := by decide +kernel
theorem dX10_init_233 : decode cX10_init 233 = .ok (.newarray .boolean, 2) := by decide +kernel
theorem dX10_init_235 : decode cX10_init 235 = .ok (.putfield 93, 3) := by decide +kernel
theorem dX10_init_238 : decode cX10_init 238 = .ok (.aload_n 0, 1) := by decide +kernel
theorem dX10_init_239 : decode cX10_init 239 = .ok (.sipush 1501, 3) := by decide +kernel
theorem dX10_init_242 : decode cX10_init 242 = .ok (.newarray .boolean, 2) := by decide +kernel
theorem dX10_init_244 : decode cX10_init 244 = .ok (.putfield 96, 3) := by decide +kernel
theorem dX10_init_247 : decode cX10_init 247 = .ok (.aload_n 0, 1) := by decide +kernel
theorem dX10_init_248 : decode cX10_init 248 = .ok (.sipush 1501, 3) := by decide +kernel
theorem dX10_init_251 : decode cX10_init 251 = .ok (.newarray .int, 2) := by decide +kernel
theorem dX10_init_253 : decode cX10_init 253 = .ok (.putfield 99, 3) := by decide +kernel
theorem dX10_init_256 : decode cX10_init 256 = .ok (.aload_n 0, 1) := by decide +kernel
theorem dX10_init_257 : decode cX10_init 257 = .ok (.sipush 4096, 3) := by decide +kernel
theorem dX10_init_260 : decode cX10_init 260 = .ok (.newarray .int, 2) := by decide +kernel
theorem dX10_init_262 : decode cX10_init 262 = .ok (.putfield 102, 3) := by decide +kernel
theorem dX10_init_265 : decode cX10_init 265 = .ok (.aload_n 0, 1) := by decide +kernel
theorem dX10_init_266 : decode cX10_init 266 = .ok (.sipush 9000, 3) := by decide +kernel
theorem dX10_init_269 : decode cX10_init 269 = .ok (.newarray .int, 2) := by decide +kernel
theorem dX10_init_271 : decode cX10_init 271 = .ok (.putfield 105, 3) := by decide +kernel
theorem dX10_init_274 : decode cX10_init 274 = .ok (.aload_n 0, 1) := by decide +kernel
theorem dX10_init_275 : decode cX10_init 275 = .ok (.sipush 1501, 3) := by decide +kernel
theorem dX10_init_278 : decode cX10_init 278 = .ok (.newarray .int, 2) := by decide +kernel
theorem dX10_init_280 : decode cX10_init 280 = .ok (.putfield 108, 3) := by decide +kernel
theorem dX10_init_283 : decode cX10_init 283 = .ok (.return_, 1) := by decide +kernel
theorem dX10_thrown_0 : decode cX10_thrown 0 = .ok (.aload_n 0, 1) := by decide +kernel
theorem dX10_thrown_1 : decode cX10_thrown 1 = .ok (.getfield 111, 3) := by decide +kernel
theorem dX10_thrown_4 : decode cX10_thrown 4 = .ok (.ireturn, 1) := by decide +kernel
theorem dX10_noCell_0 : decode cX10_noCell 0 = .ok (.iload_n 1, 1) := by decide +kernel
theorem dX10_noCell_1 : decode cX10_noCell 1 = .ok (.ifCond .lt 11, 3) := by decide +kernel
theorem dX10_noCell_4 : decode cX10_noCell 4 = .ok (.iload_n 1, 1) := by decide +kernel
theorem dX10_noCell_5 : decode cX10_noCell 5 = .ok (.aload_n 0, 1) := by decide +kernel
theorem dX10_noCell_6 : decode cX10_noCell 6 = .ok (.getfield 115, 3) := by decide +kernel
theorem dX10_noCell_9 : decode cX10_noCell 9 = .ok (.if_icmp .lt 7, 3) := by decide +kernel
theorem dX10_noCell_12 : decode cX10_noCell 12 = .ok (.iconst 1, 1) := by decide +kernel
theorem dX10_noCell_13 : decode cX10_noCell 13 = .ok (.goto 4, 3) := by decide +kernel
theorem dX10_noCell_16 : decode cX10_noCell 16 = .ok (.iconst 0, 1) := by decide +kernel
theorem dX10_noCell_17 : decode cX10_noCell 17 = .ok (.ireturn, 1) := by decide +kernel
theorem dX10_noMove_0 : decode cX10_noMove 0 = .ok (.iload_n 1, 1) := by decide +kernel
theorem dX10_noMove_1 : decode cX10_noMove 1 = .ok (.ifCond .lt 11, 3) := by decide +kernel
theorem dX10_noMove_4 : decode cX10_noMove 4 = .ok (.iload_n 1, 1) := by decide +kernel
theorem dX10_noMove_5 : decode cX10_noMove 5 = .ok (.aload_n 0, 1) := by decide +kernel
theorem dX10_noMove_6 : decode cX10_noMove 6 = .ok (.getfield 118, 3) := by decide +kernel
theorem dX10_noMove_9 : decode cX10_noMove 9 = .ok (.if_icmp .lt 7, 3) := by decide +kernel
theorem dX10_noMove_12 : decode cX10_noMove 12 = .ok (.iconst 1, 1) := by decide +kernel
theorem dX10_noMove_13 : decode cX10_noMove 13 = .ok (.goto 4, 3) := by decide +kernel
theorem dX10_noMove_16 : decode cX10_noMove 16 = .ok (.iconst 0, 1) := by decide +kernel
theorem dX10_noMove_17 : decode cX10_noMove 17 = .ok (.ireturn, 1) := by decide +kernel
theorem dX10_cell_0 : decode cX10_cell 0 = .ok (.aload_n 0, 1) := by decide +kernel
theorem dX10_cell_1 : decode cX10_cell 1 = .ok (.iconst 0, 1) := by decide +kernel
theorem dX10_cell_2 : decode cX10_cell 2 = .ok (.putfield 111, 3) := by decide +kernel
theorem dX10_cell_5 : decode cX10_cell 5 = .ok (.aload_n 0, 1) := by decide +kernel
theorem dX10_cell_6 : decode cX10_cell 6 = .ok (.getfield 115, 3) := by decide +kernel
theorem dX10_cell_9 : decode cX10_cell 9 = .ok (.bipush 10, 2) := by decide +kernel
theorem dX10_cell_11 : decode cX10_cell 11 = .ok (.if_icmp .eq 13, 3) := by decide +kernel
theorem dX10_cell_14 : decode cX10_cell 14 = .ok (.iload_n 1, 1) := by decide +kernel
theorem dX10_cell_15 : decode cX10_cell 15 = .ok (.ifCond .lt 9, 3) := by decide +kernel
theorem dX10_cell_18 : decode cX10_cell 18 = .ok (.iload_n 1, 1) := by decide +kernel
theorem dX10_cell_19 : decode cX10_cell 19 = .ok (.bipush 9, 2) := by decide +kernel
theorem dX10_cell_21 : decode cX10_cell 21 = .ok (.if_icmp .le 5, 3) := by decide +kernel
theorem dX10_cell_24 : decode cX10_cell 24 = .ok (.iconst (-1), 1) := by decide +kernel
theorem dX10_cell_25 : decode cX10_cell 25 = .ok (.ireturn, 1) := by decide +kernel
theorem dX10_cell_26 : decode cX10_cell 26 = .ok (.aload_n 0, 1) := by decide +kernel
theorem dX10_cell_27 : decode cX10_cell 27 = .ok (.getfield 7, 3) := by decide +kernel
theorem dX10_cell_30 : decode cX10_cell 30 = .ok (.aload_n 0, 1) := by decide +kernel
theorem dX10_cell_31 : decode cX10_cell 31 = .ok (.getfield 115, 3) := by decide +kernel
theorem dX10_cell_34 : decode cX10_cell 34 = .ok (.iload_n 1, 1) := by decide +kernel
theorem dX10_cell_35 : decode cX10_cell 35 = .ok (.iastore, 1) := by decide +kernel
theorem dX10_cell_36 : decode cX10_cell 36 = .ok (.aload_n 0, 1) := by decide +kernel
theorem dX10_cell_37 : decode cX10_cell 37 = .ok (.getfield 13, 3) := by decide +kernel
theorem dX10_cell_40 : decode cX10_cell 40 = .ok (.aload_n 0, 1) := by decide +kernel
theorem dX10_cell_41 : decode cX10_cell 41 = .ok (.getfield 115, 3) := by decide +kernel
theorem dX10_cell_44 : decode cX10_cell 44 = .ok (.iload_n 2, 1) := by decide +kernel
theorem dX10_cell_45 : decode cX10_cell 45 = .ok (.bastore, 1) := by decide +kernel
theorem dX10_cell_46 : decode cX10_cell 46 = .ok (.aload_n 0, 1) := by decide +kernel
theorem dX10_cell_47 : decode cX10_cell 47 = .ok (.getfield 17, 3) := by decide +kernel
theorem dX10_cell_50 : decode cX10_cell 50 = .ok (.aload_n 0, 1) := by decide +kernel
theorem dX10_cell_51 : decode cX10_cell 51 = .ok (.getfield 115, 3) := by decide +kernel
theorem dX10_cell_54 : decode cX10_cell 54 = .ok (.iconst 0, 1) := by decide +kernel
theorem dX10_cell_55 : decode cX10_cell 55 = .ok (.iastore, 1) := by decide +kernel
theorem dX10_cell_56 : decode cX10_cell 56 = .ok (.aload_n 0, 1) := by decide +kernel
theorem dX10_cell_57 : decode cX10_cell 57 = .ok (.getfield 71, 3) := by decide +kernel
theorem dX10_cell_60 : decode cX10_cell 60 = .ok (.aload_n 0, 1) := by decide +kernel
theorem dX10_cell_61 : decode cX10_cell 61 = .ok (.getfield 115, 3) := by decide +kernel
theorem dX10_cell_64 : decode cX10_cell 64 = .ok (.iload_n 1, 1) := by decide +kernel
theorem dX10_cell_65 : decode cX10_cell 65 = .ok (.iastore, 1) := by decide +kernel
theorem dX10_cell_66 : decode cX10_cell 66 = .ok (.aload_n 0, 1) := by decide +kernel
theorem dX10_cell_67 : decode cX10_cell 67 = .ok (.dup, 1) := by decide +kernel
theorem dX10_cell_68 : decode cX10_cell 68 = .ok (.getfield 115, 3) := by decide +kernel
theorem dX10_cell_71 : decode cX10_cell 71 = .ok (.iconst 1, 1) := by decide +kernel
theorem dX10_cell_72 : decode cX10_cell 72 = .ok (.iadd, 1) := by decide +kernel
theorem dX10_cell_73 : decode cX10_cell 73 = .ok (.putfield 115, 3) := by decide +kernel
theorem dX10_cell_76 : decode cX10_cell 76 = .ok (.aload_n 0, 1) := by decide +kernel
theorem dX10_cell_77 : decode cX10_cell 77 = .ok (.getfield 115, 3) := by decide +kernel
theorem dX10_cell_80 : decode cX10_cell 80 = .ok (.iconst 1, 1) := by decide +kernel
theorem dX10_cell_81 : decode cX10_cell 81 = .ok (.isub, 1) := by decide +kernel
theorem dX10_cell_82 : decode cX10_cell 82 = .ok (.ireturn, 1) := by decide +kernel
theorem dX10_weigh_0 : decode cX10_weigh 0 = .ok (.aload_n 0, 1) := by decide +kernel
theorem dX10_weigh_1 : decode cX10_weigh 1 = .ok (.iconst 0, 1) := by decide +kernel
theorem dX10_weigh_2 : decode cX10_weigh 2 = .ok (.putfield 111, 3) := by decide +kernel
theorem dX10_weigh_5 : decode cX10_weigh 5 = .ok (.aload_n 0, 1) := by decide +kernel
theorem dX10_weigh_6 : decode cX10_weigh 6 = .ok (.iload_n 1, 1) := by decide +kernel
theorem dX10_weigh_7 : decode cX10_weigh 7 = .ok (.invokevirtual 121, 3) := by decide +kernel
theorem dX10_weigh_10 : decode cX10_weigh 10 = .ok (.ifCond .ne 15, 3) := by decide +kernel
theorem dX10_weigh_13 : decode cX10_weigh 13 = .ok (.iload_n 2, 1) := by decide +kernel
theorem dX10_weigh_14 : decode cX10_weigh 14 = .ok (.bipush (-100), 2) := by decide +kernel
theorem dX10_weigh_16 : decode cX10_weigh 16 = .ok (.if_icmp .lt 9, 3) := by decide +kernel
theorem dX10_weigh_19 : decode cX10_weigh 19 = .ok (.iload_n 2, 1) := by decide +kernel
theorem dX10_weigh_20 : decode cX10_weigh 20 = .ok (.bipush 100, 2) := by decide +kernel
theorem dX10_weigh_22 : decode cX10_weigh 22 = .ok (.if_icmp .le 5, 3) := by decide +kernel
theorem dX10_weigh_25 : decode cX10_weigh 25 = .ok (.iconst 0, 1) := by decide +kernel
theorem dX10_weigh_26 : decode cX10_weigh 26 = .ok (.ireturn, 1) := by decide +kernel
theorem dX10_weigh_27 : decode cX10_weigh 27 = .ok (.aload_n 0, 1) := by decide +kernel
theorem dX10_weigh_28 : decode cX10_weigh 28 = .ok (.getfield 17, 3) := by decide +kernel
theorem dX10_weigh_31 : decode cX10_weigh 31 = .ok (.iload_n 1, 1) := by decide +kernel
theorem dX10_weigh_32 : decode cX10_weigh 32 = .ok (.iload_n 2, 1) := by decide +kernel
theorem dX10_weigh_33 : decode cX10_weigh 33 = .ok (.iastore, 1) := by decide +kernel
theorem dX10_weigh_34 : decode cX10_weigh 34 = .ok (.iconst 1, 1) := by decide +kernel
theorem dX10_weigh_35 : decode cX10_weigh 35 = .ok (.ireturn, 1) := by decide +kernel
theorem dX10_move_0 : decode cX10_move 0 = .ok (.aload_n 0, 1) := by decide +kernel
theorem dX10_move_1 : decode cX10_move 1 = .ok (.iconst 0, 1) := by decide +kernel
theorem dX10_move_2 : decode cX10_move 2 = .ok (.putfield 111, 3) := by decide +kernel
theorem dX10_move_5 : decode cX10_move 5 = .ok (.aload_n 0, 1) := by decide +kernel
theorem dX10_move_6 : decode cX10_move 6 = .ok (.getfield 118, 3) := by decide +kernel
theorem dX10_move_9 : decode cX10_move 9 = .ok (.bipush 24, 2) := by decide +kernel
theorem dX10_move_11 : decode cX10_move 11 = .ok (.if_icmp .ne 5, 3) := by decide +kernel
theorem dX10_move_14 : decode cX10_move 14 = .ok (.iconst (-1), 1) := by decide +kernel
theorem dX10_move_15 : decode cX10_move 15 = .ok (.ireturn, 1) := by decide +kernel
theorem dX10_move_16 : decode cX10_move 16 = .ok (.aload_n 0, 1) := by decide +kernel
theorem dX10_move_17 : decode cX10_move 17 = .ok (.getfield 20, 3) := by decide +kernel
theorem dX10_move_20 : decode cX10_move 20 = .ok (.aload_n 0, 1) := by decide +kernel
theorem dX10_move_21 : decode cX10_move 21 = .ok (.getfield 118, 3) := by decide +kernel
theorem dX10_move_24 : decode cX10_move 24 = .ok (.iconst 0, 1) := by decide +kernel
theorem dX10_move_25 : decode cX10_move 25 = .ok (.iastore, 1) := by decide +kernel
theorem dX10_move_26 : decode cX10_move 26 = .ok (.aload_n 0, 1) := by decide +kernel
theorem dX10_move_27 : decode cX10_move 27 = .ok (.getfield 32, 3) := by decide +kernel
theorem dX10_move_30 : decode cX10_move 30 = .ok (.aload_n 0, 1) := by decide +kernel
theorem dX10_move_31 : decode cX10_move 31 = .ok (.getfield 118, 3) := by decide +kernel
theorem dX10_move_34 : decode cX10_move 34 = .ok (.iconst 0, 1) := by decide +kernel
theorem dX10_move_35 : decode cX10_move 35 = .ok (.iastore, 1) := by decide +kernel
theorem dX10_move_36 : decode cX10_move 36 = .ok (.aload_n 0, 1) := by decide +kernel
theorem dX10_move_37 : decode cX10_move 37 = .ok (.getfield 44, 3) := by decide +kernel
theorem dX10_move_40 : decode cX10_move 40 = .ok (.aload_n 0, 1) := by decide +kernel
theorem dX10_move_41 : decode cX10_move 41 = .ok (.getfield 118, 3) := by decide +kernel
theorem dX10_move_44 : decode cX10_move 44 = .ok (.iconst (-1), 1) := by decide +kernel
theorem dX10_move_45 : decode cX10_move 45 = .ok (.iastore, 1) := by decide +kernel
theorem dX10_move_46 : decode cX10_move 46 = .ok (.aload_n 0, 1) := by decide +kernel
theorem dX10_move_47 : decode cX10_move 47 = .ok (.getfield 47, 3) := by decide +kernel
theorem dX10_move_50 : decode cX10_move 50 = .ok (.aload_n 0, 1) := by decide +kernel
theorem dX10_move_51 : decode cX10_move 51 = .ok (.getfield 118, 3) := by decide +kernel
theorem dX10_move_54 : decode cX10_move 54 = .ok (.iconst 0, 1) := by decide +kernel
theorem dX10_move_55 : decode cX10_move 55 = .ok (.iastore, 1) := by decide +kernel
theorem dX10_move_56 : decode cX10_move 56 = .ok (.aload_n 0, 1) := by decide +kernel
theorem dX10_move_57 : decode cX10_move 57 = .ok (.dup, 1) := by decide +kernel
theorem dX10_move_58 : decode cX10_move 58 = .ok (.getfield 118, 3) := by decide +kernel
theorem dX10_move_61 : decode cX10_move 61 = .ok (.iconst 1, 1) := by decide +kernel
theorem dX10_move_62 : decode cX10_move 62 = .ok (.iadd, 1) := by decide +kernel
theorem dX10_move_63 : decode cX10_move 63 = .ok (.putfield 118, 3) := by decide +kernel
theorem dX10_move_66 : decode cX10_move 66 = .ok (.aload_n 0, 1) := by decide +kernel
theorem dX10_move_67 : decode cX10_move 67 = .ok (.getfield 118, 3) := by decide +kernel
theorem dX10_move_70 : decode cX10_move 70 = .ok (.iconst 1, 1) := by decide +kernel
theorem dX10_move_71 : decode cX10_move 71 = .ok (.isub, 1) := by decide +kernel
theorem dX10_move_72 : decode cX10_move 72 = .ok (.ireturn, 1) := by decide +kernel
theorem dX10_when_0 : decode cX10_when 0 = .ok (.aload_n 0, 1) := by decide +kernel
theorem dX10_when_1 : decode cX10_when 1 = .ok (.iconst 0, 1) := by decide +kernel
theorem dX10_when_2 : decode cX10_when 2 = .ok (.putfield 111, 3) := by decide +kernel
theorem dX10_when_5 : decode cX10_when 5 = .ok (.aload_n 0, 1) := by decide +kernel
theorem dX10_when_6 : decode cX10_when 6 = .ok (.iload_n 1, 1) := by decide +kernel
theorem dX10_when_7 : decode cX10_when 7 = .ok (.invokevirtual 125, 3) := by decide +kernel
theorem dX10_when_10 : decode cX10_when 10 = .ok (.ifCond .ne 43, 3) := by decide +kernel
theorem dX10_when_13 : decode cX10_when 13 = .ok (.aload_n 0, 1) := by decide +kernel
theorem dX10_when_14 : decode cX10_when 14 = .ok (.iload_n 2, 1) := by decide +kernel
theorem dX10_when_15 : decode cX10_when 15 = .ok (.invokevirtual 121, 3) := by decide +kernel
theorem dX10_when_18 : decode cX10_when 18 = .ok (.ifCond .ne 35, 3) := by decide +kernel
theorem dX10_when_21 : decode cX10_when 21 = .ok (.iload_n 3, 1) := by decide +kernel
theorem dX10_when_22 : decode cX10_when 22 = .ok (.ifCond .lt 31, 3) := by decide +kernel
theorem dX10_when_25 : decode cX10_when 25 = .ok (.iload_n 3, 1) := by decide +kernel
theorem dX10_when_26 : decode cX10_when 26 = .ok (.iconst 3, 1) := by decide +kernel
theorem dX10_when_27 : decode cX10_when 27 = .ok (.if_icmp .gt 26, 3) := by decide +kernel
theorem dX10_when_30 : decode cX10_when 30 = .ok (.iload 4, 2) := by decide +kernel
theorem dX10_when_32 : decode cX10_when 32 = .ok (.ifCond .lt 21, 3) := by decide +kernel
theorem dX10_when_35 : decode cX10_when 35 = .ok (.iload 4, 2) := by decide +kernel
theorem dX10_when_37 : decode cX10_when 37 = .ok (.bipush 9, 2) := by decide +kernel
theorem dX10_when_39 : decode cX10_when 39 = .ok (.if_icmp .gt 14, 3) := by decide +kernel
theorem dX10_when_42 : decode cX10_when 42 = .ok (.aload_n 0, 1) := by decide +kernel
theorem dX10_when_43 : decode cX10_when 43 = .ok (.getfield 20, 3) := by decide +kernel
theorem dX10_when_46 : decode cX10_when 46 = .ok (.iload_n 1, 1) := by decide +kernel
theorem dX10_when_47 : decode cX10_when 47 = .ok (.iaload, 1) := by decide +kernel
theorem dX10_when_48 : decode cX10_when 48 = .ok (.bipush 6, 2) := by decide +kernel
theorem dX10_when_50 : decode cX10_when 50 = .ok (.if_icmp .ne 5, 3) := by decide +kernel
theorem dX10_when_53 : decode cX10_when 53 = .ok (.iconst 0, 1) := by decide +kernel
theorem dX10_when_54 : decode cX10_when 54 = .ok (.ireturn, 1) := by decide +kernel
theorem dX10_when_55 : decode cX10_when 55 = .ok (.bipush 6, 2) := by decide +kernel
theorem dX10_when_57 : decode cX10_when 57 = .ok (.iload_n 1, 1) := by decide +kernel
theorem dX10_when_58 : decode cX10_when 58 = .ok (.imul, 1) := by decide +kernel
theorem dX10_when_59 : decode cX10_when 59 = .ok (.aload_n 0, 1) := by decide +kernel
theorem dX10_when_60 : decode cX10_when 60 = .ok (.getfield 20, 3) := by decide +kernel
theorem dX10_when_63 : decode cX10_when 63 = .ok (.iload_n 1, 1) := by decide +kernel
theorem dX10_when_64 : decode cX10_when 64 = .ok (.iaload, 1) := by decide +kernel
theorem dX10_when_65 : decode cX10_when 65 = .ok (.iadd, 1) := by decide +kernel
theorem dX10_when_66 : decode cX10_when 66 = .ok (.istore 5, 2) := by decide +kernel
theorem dX10_when_68 : decode cX10_when 68 = .ok (.aload_n 0, 1) := by decide +kernel
theorem dX10_when_69 : decode cX10_when 69 = .ok (.getfield 23, 3) := by decide +kernel
theorem dX10_when_72 : decode cX10_when 72 = .ok (.iload 5, 2) := by decide +kernel
theorem dX10_when_74 : decode cX10_when 74 = .ok (.iload_n 2, 1) := by decide +kernel
theorem dX10_when_75 : decode cX10_when 75 = .ok (.iastore, 1) := by decide +kernel
theorem dX10_when_76 : decode cX10_when 76 = .ok (.aload_n 0, 1) := by decide +kernel
theorem dX10_when_77 : decode cX10_when 77 = .ok (.getfield 26, 3) := by decide +kernel
theorem dX10_when_80 : decode cX10_when 80 = .ok (.iload 5, 2) := by decide +kernel
theorem dX10_when_82 : decode cX10_when 82 = .ok (.iload_n 3, 1) := by decide +kernel
theorem dX10_when_83 : decode cX10_when 83 = .ok (.iastore, 1) := by decide +kernel
theorem dX10_when_84 : decode cX10_when 84 = .ok (.aload_n 0, 1) := by decide +kernel
theorem dX10_when_85 : decode cX10_when 85 = .ok (.getfield 29, 3) := by decide +kernel
theorem dX10_when_88 : decode cX10_when 88 = .ok (.iload 5, 2) := by decide +kernel
theorem dX10_when_90 : decode cX10_when 90 = .ok (.iload 4, 2) := by decide +kernel
theorem dX10_when_92 : decode cX10_when 92 = .ok (.iastore, 1) := by decide +kernel
theorem dX10_when_93 : decode cX10_when 93 = .ok (.aload_n 0, 1) := by decide +kernel
theorem dX10_when_94 : decode cX10_when 94 = .ok (.getfield 20, 3) := by decide +kernel
theorem dX10_when_97 : decode cX10_when 97 = .ok (.iload_n 1, 1) := by decide +kernel
theorem dX10_when_98 : decode cX10_when 98 = .ok (.dup2, 1) := by decide +kernel
theorem dX10_when_99 : decode cX10_when 99 = .ok (.iaload, 1) := by decide +kernel
theorem dX10_when_100 : decode cX10_when 100 = .ok (.iconst 1, 1) := by decide +kernel
theorem dX10_when_101 : decode cX10_when 101 = .ok (.iadd, 1) := by decide +kernel
theorem dX10_when_102 : decode cX10_when 102 = .ok (.iastore, 1) := by decide +kernel
theorem dX10_when_103 : decode cX10_when 103 = .ok (.iconst 1, 1) := by decide +kernel
theorem dX10_when_104 : decode cX10_when 104 = .ok (.ireturn, 1) := by decide +kernel
theorem dX10_isEffect_0 : decode cX10_isEffect 0 = .ok (.iload_n 1, 1) := by decide +kernel
theorem dX10_isEffect_1 : decode cX10_isEffect 1 = .ok (.tableswitch 96 0 3 #[31, 47, 65, 79], 31) := by decide +kernel
theorem dX10_isEffect_32 : decode cX10_isEffect 32 = .ok (.iload_n 2, 1) := by decide +kernel
theorem dX10_isEffect_33 : decode cX10_isEffect 33 = .ok (.ifCond .lt 13, 3) := by decide +kernel
theorem dX10_isEffect_36 : decode cX10_isEffect 36 = .ok (.iload_n 2, 1) := by decide +kernel
theorem dX10_isEffect_37 : decode cX10_isEffect 37 = .ok (.bipush 9, 2) := by decide +kernel
theorem dX10_isEffect_39 : decode cX10_isEffect 39 = .ok (.if_icmp .gt 7, 3) := by decide +kernel
theorem dX10_isEffect_42 : decode cX10_isEffect 42 = .ok (.iconst 1, 1) := by decide +kernel
theorem dX10_isEffect_43 : decode cX10_isEffect 43 = .ok (.goto 4, 3) := by decide +kernel
theorem dX10_isEffect_46 : decode cX10_isEffect 46 = .ok (.iconst 0, 1) := by decide +kernel
theorem dX10_isEffect_47 : decode cX10_isEffect 47 = .ok (.ireturn, 1) := by decide +kernel
theorem dX10_isEffect_48 : decode cX10_isEffect 48 = .ok (.iload_n 2, 1) := by decide +kernel
theorem dX10_isEffect_49 : decode cX10_isEffect 49 = .ok (.bipush (-9), 2) := by decide +kernel
theorem dX10_isEffect_51 : decode cX10_isEffect 51 = .ok (.if_icmp .lt 13, 3) := by decide +kernel
theorem dX10_isEffect_54 : decode cX10_isEffect 54 = .ok (.iload_n 2, 1) := by decide +kernel
theorem dX10_isEffect_55 : decode cX10_isEffect 55 = .ok (.bipush 9, 2) := by decide +kernel
theorem dX10_isEffect_57 : decode cX10_isEffect 57 = .ok (.if_icmp .gt 7, 3) := by decide +kernel
theorem dX10_isEffect_60 : decode cX10_isEffect 60 = .ok (.iconst 1, 1) := by decide +kernel
theorem dX10_isEffect_61 : decode cX10_isEffect 61 = .ok (.goto 4, 3) := by decide +kernel
theorem dX10_isEffect_64 : decode cX10_isEffect 64 = .ok (.iconst 0, 1) := by decide +kernel
theorem dX10_isEffect_65 : decode cX10_isEffect 65 = .ok (.ireturn, 1) := by decide +kernel
theorem dX10_isEffect_66 : decode cX10_isEffect 66 = .ok (.aload_n 0, 1) := by decide +kernel
theorem dX10_isEffect_67 : decode cX10_isEffect 67 = .ok (.iload_n 2, 1) := by decide +kernel
theorem dX10_isEffect_68 : decode cX10_isEffect 68 = .ok (.invokevirtual 121, 3) := by decide +kernel
theorem dX10_isEffect_71 : decode cX10_isEffect 71 = .ok (.ifCond .ne 7, 3) := by decide +kernel
theorem dX10_isEffect_74 : decode cX10_isEffect 74 = .ok (.iconst 1, 1) := by decide +kernel
theorem dX10_isEffect_75 : decode cX10_isEffect 75 = .ok (.goto 4, 3) := by decide +kernel
theorem dX10_isEffect_78 : decode cX10_isEffect 78 = .ok (.iconst 0, 1) := by decide +kernel
theorem dX10_isEffect_79 : decode cX10_isEffect 79 = .ok (.ireturn, 1) := by decide +kernel
theorem dX10_isEffect_80 : decode cX10_isEffect 80 = .ok (.iload_n 2, 1) := by decide +kernel
theorem dX10_isEffect_81 : decode cX10_isEffect 81 = .ok (.iconst 1, 1) := by decide +kernel
theorem dX10_isEffect_82 : decode cX10_isEffect 82 = .ok (.if_icmp .lt 13, 3) := by decide +kernel
theorem dX10_isEffect_85 : decode cX10_isEffect 85 = .ok (.iload_n 2, 1) := by decide +kernel
theorem dX10_isEffect_86 : decode cX10_isEffect 86 = .ok (.bipush 10, 2) := by decide +kernel
theorem dX10_isEffect_88 : decode cX10_isEffect 88 = .ok (.if_icmp .gt 7, 3) := by decide +kernel
theorem dX10_isEffect_91 : decode cX10_isEffect 91 = .ok (.iconst 1, 1) := by decide +kernel
theorem dX10_isEffect_92 : decode cX10_isEffect 92 = .ok (.goto 4, 3) := by decide +kernel
theorem dX10_isEffect_95 : decode cX10_isEffect 95 = .ok (.iconst 0, 1) := by decide +kernel
theorem dX10_isEffect_96 : decode cX10_isEffect 96 = .ok (.ireturn, 1) := by decide +kernel
theorem dX10_isEffect_97 : decode cX10_isEffect 97 = .ok (.iconst 0, 1) := by decide +kernel
theorem dX10_isEffect_98 : decode cX10_isEffect 98 = .ok (.ireturn, 1) := by decide +kernel
theorem dX10_then_0 : decode cX10_then 0 = .ok (.aload_n 0, 1) := by decide +kernel
theorem dX10_then_1 : decode cX10_then 1 = .ok (.iconst 0, 1) := by decide +kernel
theorem dX10_then_2 : decode cX10_then 2 = .ok (.putfield 111, 3) := by decide +kernel
theorem dX10_then_5 : decode cX10_then 5 = .ok (.aload_n 0, 1) := by decide +kernel
theorem dX10_then_6 : decode cX10_then 6 = .ok (.iload_n 1, 1) := by decide +kernel
theorem dX10_then_7 : decode cX10_then 7 = .ok (.invokevirtual 125, 3) := by decide +kernel
theorem dX10_then_10 : decode cX10_then 10 = .ok (.ifCond .ne 32, 3) := by decide +kernel
theorem dX10_then_13 : decode cX10_then 13 = .ok (.aload_n 0, 1) := by decide +kernel
theorem dX10_then_14 : decode cX10_then 14 = .ok (.iload_n 3, 1) := by decide +kernel
theorem dX10_then_15 : decode cX10_then 15 = .ok (.invokevirtual 121, 3) := by decide +kernel
theorem dX10_then_18 : decode cX10_then 18 = .ok (.ifCond .ne 24, 3) := by decide +kernel
theorem dX10_then_21 : decode cX10_then 21 = .ok (.aload_n 0, 1) := by decide +kernel
theorem dX10_then_22 : decode cX10_then 22 = .ok (.iload_n 2, 1) := by decide +kernel
theorem dX10_then_23 : decode cX10_then 23 = .ok (.iload 4, 2) := by decide +kernel
theorem dX10_then_25 : decode cX10_then 25 = .ok (.invokevirtual 128, 3) := by decide +kernel
theorem dX10_then_28 : decode cX10_then 28 = .ok (.ifCond .eq 14, 3) := by decide +kernel
theorem dX10_then_31 : decode cX10_then 31 = .ok (.aload_n 0, 1) := by decide +kernel
theorem dX10_then_32 : decode cX10_then 32 = .ok (.getfield 32, 3) := by decide +kernel
theorem dX10_then_35 : decode cX10_then 35 = .ok (.iload_n 1, 1) := by decide +kernel
theorem dX10_then_36 : decode cX10_then 36 = .ok (.iaload, 1) := by decide +kernel
theorem dX10_then_37 : decode cX10_then 37 = .ok (.bipush 6, 2) := by decide +kernel
theorem dX10_then_39 : decode cX10_then 39 = .ok (.if_icmp .ne 5, 3) := by decide +kernel
theorem dX10_then_42 : decode cX10_then 42 = .ok (.iconst 0, 1) := by decide +kernel
theorem dX10_then_43 : decode cX10_then 43 = .ok (.ireturn, 1) := by decide +kernel
theorem dX10_then_44 : decode cX10_then 44 = .ok (.bipush 6, 2) := by decide +kernel
theorem dX10_then_46 : decode cX10_then 46 = .ok (.iload_n 1, 1) := by decide +kernel
theorem dX10_then_47 : decode cX10_then 47 = .ok (.imul, 1) := by decide +kernel
theorem dX10_then_48 : decode cX10_then 48 = .ok (.aload_n 0, 1) := by decide +kernel
theorem dX10_then_49 : decode cX10_then 49 = .ok (.getfield 32, 3) := by decide +kernel
theorem dX10_then_52 : decode cX10_then 52 = .ok (.iload_n 1, 1) := by decide +kernel
theorem dX10_then_53 : decode cX10_then 53 = .ok (.iaload, 1) := by decide +kernel
theorem dX10_then_54 : decode cX10_then 54 = .ok (.iadd, 1) := by decide +kernel
theorem dX10_then_55 : decode cX10_then 55 = .ok (.istore 5, 2) := by decide +kernel
theorem dX10_then_57 : decode cX10_then 57 = .ok (.aload_n 0, 1) := by decide +kernel
theorem dX10_then_58 : decode cX10_then 58 = .ok (.getfield 35, 3) := by decide +kernel
theorem dX10_then_61 : decode cX10_then 61 = .ok (.iload 5, 2) := by decide +kernel
theorem dX10_then_63 : decode cX10_then 63 = .ok (.iload_n 2, 1) := by decide +kernel
theorem dX10_then_64 : decode cX10_then 64 = .ok (.iastore, 1) := by decide +kernel
theorem dX10_then_65 : decode cX10_then 65 = .ok (.aload_n 0, 1) := by decide +kernel
theorem dX10_then_66 : decode cX10_then 66 = .ok (.getfield 38, 3) := by decide +kernel
theorem dX10_then_69 : decode cX10_then 69 = .ok (.iload 5, 2) := by decide +kernel
theorem dX10_then_71 : decode cX10_then 71 = .ok (.iload_n 3, 1) := by decide +kernel
theorem dX10_then_72 : decode cX10_then 72 = .ok (.iastore, 1) := by decide +kernel
theorem dX10_then_73 : decode cX10_then 73 = .ok (.aload_n 0, 1) := by decide +kernel
theorem dX10_then_74 : decode cX10_then 74 = .ok (.getfield 41, 3) := by decide +kernel
theorem dX10_then_77 : decode cX10_then 77 = .ok (.iload 5, 2) := by decide +kernel
theorem dX10_then_79 : decode cX10_then 79 = .ok (.iload 4, 2) := by decide +kernel
theorem dX10_then_81 : decode cX10_then 81 = .ok (.iastore, 1) := by decide +kernel
theorem dX10_then_82 : decode cX10_then 82 = .ok (.aload_n 0, 1) := by decide +kernel
theorem dX10_then_83 : decode cX10_then 83 = .ok (.getfield 32, 3) := by decide +kernel
theorem dX10_then_86 : decode cX10_then 86 = .ok (.iload_n 1, 1) := by decide +kernel
theorem dX10_then_87 : decode cX10_then 87 = .ok (.dup2, 1) := by decide +kernel
theorem dX10_then_88 : decode cX10_then 88 = .ok (.iaload, 1) := by decide +kernel
theorem dX10_then_89 : decode cX10_then 89 = .ok (.iconst 1, 1) := by decide +kernel
theorem dX10_then_90 : decode cX10_then 90 = .ok (.iadd, 1) := by decide +kernel
theorem dX10_then_91 : decode cX10_then 91 = .ok (.iastore, 1) := by decide +kernel
theorem dX10_then_92 : decode cX10_then 92 = .ok (.iconst 1, 1) := by decide +kernel
theorem dX10_then_93 : decode cX10_then 93 = .ok (.ireturn, 1) := by decide +kernel
theorem dX10_show_0 : decode cX10_show 0 = .ok (.aload_n 0, 1) := by decide +kernel
theorem dX10_show_1 : decode cX10_show 1 = .ok (.iconst 0, 1) := by decide +kernel
theorem dX10_show_2 : decode cX10_show 2 = .ok (.putfield 111, 3) := by decide +kernel
theorem dX10_show_5 : decode cX10_show 5 = .ok (.aload_n 0, 1) := by decide +kernel
theorem dX10_show_6 : decode cX10_show 6 = .ok (.iload_n 1, 1) := by decide +kernel
theorem dX10_show_7 : decode cX10_show 7 = .ok (.invokevirtual 125, 3) := by decide +kernel
theorem dX10_show_10 : decode cX10_show 10 = .ok (.ifCond .ne 14, 3) := by decide +kernel
theorem dX10_show_13 : decode cX10_show 13 = .ok (.iload_n 2, 1) := by decide +kernel
theorem dX10_show_14 : decode cX10_show 14 = .ok (.iconst (-1), 1) := by decide +kernel
theorem dX10_show_15 : decode cX10_show 15 = .ok (.if_icmp .lt 9, 3) := by decide +kernel
theorem dX10_show_18 : decode cX10_show 18 = .ok (.iload_n 2, 1) := by decide +kernel
theorem dX10_show_19 : decode cX10_show 19 = .ok (.bipush 32, 2) := by decide +kernel
theorem dX10_show_21 : decode cX10_show 21 = .ok (.if_icmp .lt 5, 3) := by decide +kernel
theorem dX10_show_24 : decode cX10_show 24 = .ok (.iconst 0, 1) := by decide +kernel
theorem dX10_show_25 : decode cX10_show 25 = .ok (.ireturn, 1) := by decide +kernel
theorem dX10_show_26 : decode cX10_show 26 = .ok (.aload_n 0, 1) := by decide +kernel
theorem dX10_show_27 : decode cX10_show 27 = .ok (.getfield 44, 3) := by decide +kernel
theorem dX10_show_30 : decode cX10_show 30 = .ok (.iload_n 1, 1) := by decide +kernel
theorem dX10_show_31 : decode cX10_show 31 = .ok (.iload_n 2, 1) := by decide +kernel
theorem dX10_show_32 : decode cX10_show 32 = .ok (.iastore, 1) := by decide +kernel
theorem dX10_show_33 : decode cX10_show 33 = .ok (.iconst 1, 1) := by decide +kernel
theorem dX10_show_34 : decode cX10_show 34 = .ok (.ireturn, 1) := by decide +kernel
theorem dX10_ends_0 : decode cX10_ends 0 = .ok (.aload_n 0, 1) := by decide +kernel
theorem dX10_ends_1 : decode cX10_ends 1 = .ok (.iconst 0, 1) := by decide +kernel
theorem dX10_ends_2 : decode cX10_ends 2 = .ok (.putfield 111, 3) := by decide +kernel
theorem dX10_ends_5 : decode cX10_ends 5 = .ok (.aload_n 0, 1) := by decide +kernel
theorem dX10_ends_6 : decode cX10_ends 6 = .ok (.iload_n 1, 1) := by decide +kernel
theorem dX10_ends_7 : decode cX10_ends 7 = .ok (.invokevirtual 125, 3) := by decide +kernel
theorem dX10_ends_10 : decode cX10_ends 10 = .ok (.ifCond .ne 13, 3) := by decide +kernel
theorem dX10_ends_13 : decode cX10_ends 13 = .ok (.iload_n 2, 1) := by decide +kernel
theorem dX10_ends_14 : decode cX10_ends 14 = .ok (.ifCond .lt 9, 3) := by decide +kernel
theorem dX10_ends_17 : decode cX10_ends 17 = .ok (.iload_n 2, 1) := by decide +kernel
theorem dX10_ends_18 : decode cX10_ends 18 = .ok (.bipush 9, 2) := by decide +kernel
theorem dX10_ends_20 : decode cX10_ends 20 = .ok (.if_icmp .le 5, 3) := by decide +kernel
theorem dX10_ends_23 : decode cX10_ends 23 = .ok (.iconst 0, 1) := by decide +kernel
theorem dX10_ends_24 : decode cX10_ends 24 = .ok (.ireturn, 1) := by decide +kernel
theorem dX10_ends_25 : decode cX10_ends 25 = .ok (.aload_n 0, 1) := by decide +kernel
theorem dX10_ends_26 : decode cX10_ends 26 = .ok (.getfield 47, 3) := by decide +kernel
theorem dX10_ends_29 : decode cX10_ends 29 = .ok (.iload_n 1, 1) := by decide +kernel
theorem dX10_ends_30 : decode cX10_ends 30 = .ok (.iload_n 2, 1) := by decide +kernel
theorem dX10_ends_31 : decode cX10_ends 31 = .ok (.iastore, 1) := by decide +kernel
theorem dX10_ends_32 : decode cX10_ends 32 = .ok (.iconst 1, 1) := by decide +kernel
theorem dX10_ends_33 : decode cX10_ends 33 = .ok (.ireturn, 1) := by decide +kernel
theorem dX10_of_0 : decode cX10_of 0 = .ok (.aload_n 0, 1) := by decide +kernel
theorem dX10_of_1 : decode cX10_of 1 = .ok (.iconst 0, 1) := by decide +kernel
theorem dX10_of_2 : decode cX10_of 2 = .ok (.putfield 111, 3) := by decide +kernel
theorem dX10_of_5 : decode cX10_of 5 = .ok (.aload_n 0, 1) := by decide +kernel
theorem dX10_of_6 : decode cX10_of 6 = .ok (.iload_n 1, 1) := by decide +kernel
theorem dX10_of_7 : decode cX10_of 7 = .ok (.invokevirtual 125, 3) := by decide +kernel
theorem dX10_of_10 : decode cX10_of 10 = .ok (.ifCond .ne 12, 3) := by decide +kernel
theorem dX10_of_13 : decode cX10_of 13 = .ok (.aload_n 0, 1) := by decide +kernel
theorem dX10_of_14 : decode cX10_of 14 = .ok (.getfield 132, 3) := by decide +kernel
theorem dX10_of_17 : decode cX10_of 17 = .ok (.bipush 6, 2) := by decide +kernel
theorem dX10_of_19 : decode cX10_of 19 = .ok (.if_icmp .ne 5, 3) := by decide +kernel
theorem dX10_of_22 : decode cX10_of 22 = .ok (.iconst (-1), 1) := by decide +kernel
theorem dX10_of_23 : decode cX10_of 23 = .ok (.ireturn, 1) := by decide +kernel
theorem dX10_of_24 : decode cX10_of 24 = .ok (.aload_n 0, 1) := by decide +kernel
theorem dX10_of_25 : decode cX10_of 25 = .ok (.getfield 56, 3) := by decide +kernel
theorem dX10_of_28 : decode cX10_of 28 = .ok (.aload_n 0, 1) := by decide +kernel
theorem dX10_of_29 : decode cX10_of 29 = .ok (.getfield 132, 3) := by decide +kernel
theorem dX10_of_32 : decode cX10_of 32 = .ok (.iload_n 1, 1) := by decide +kernel
theorem dX10_of_33 : decode cX10_of 33 = .ok (.iastore, 1) := by decide +kernel
theorem dX10_of_34 : decode cX10_of 34 = .ok (.aload_n 0, 1) := by decide +kernel
theorem dX10_of_35 : decode cX10_of 35 = .ok (.dup, 1) := by decide +kernel
theorem dX10_of_36 : decode cX10_of 36 = .ok (.getfield 132, 3) := by decide +kernel
theorem dX10_of_39 : decode cX10_of 39 = .ok (.iconst 1, 1) := by decide +kernel
theorem dX10_of_40 : decode cX10_of 40 = .ok (.iadd, 1) := by decide +kernel
theorem dX10_of_41 : decode cX10_of 41 = .ok (.putfield 132, 3) := by decide +kernel
theorem dX10_of_44 : decode cX10_of 44 = .ok (.aload_n 0, 1) := by decide +kernel
theorem dX10_of_45 : decode cX10_of 45 = .ok (.getfield 132, 3) := by decide +kernel
theorem dX10_of_48 : decode cX10_of 48 = .ok (.ireturn, 1) := by decide +kernel
theorem dX10_macro_0 : decode cX10_macro 0 = .ok (.aload_n 0, 1) := by decide +kernel
theorem dX10_macro_1 : decode cX10_macro 1 = .ok (.iconst 0, 1) := by decide +kernel
theorem dX10_macro_2 : decode cX10_macro 2 = .ok (.putfield 111, 3) := by decide +kernel
theorem dX10_macro_5 : decode cX10_macro 5 = .ok (.aload_n 0, 1) := by decide +kernel
theorem dX10_macro_6 : decode cX10_macro 6 = .ok (.getfield 132, 3) := by decide +kernel
theorem dX10_macro_9 : decode cX10_macro 9 = .ok (.iconst 2, 1) := by decide +kernel
theorem dX10_macro_10 : decode cX10_macro 10 = .ok (.if_icmp .lt 12, 3) := by decide +kernel
theorem dX10_macro_13 : decode cX10_macro 13 = .ok (.aload_n 0, 1) := by decide +kernel
theorem dX10_macro_14 : decode cX10_macro 14 = .ok (.getfield 135, 3) := by decide +kernel
theorem dX10_macro_17 : decode cX10_macro 17 = .ok (.bipush 8, 2) := by decide +kernel
theorem dX10_macro_19 : decode cX10_macro 19 = .ok (.if_icmp .ne 5, 3) := by decide +kernel
theorem dX10_macro_22 : decode cX10_macro 22 = .ok (.iconst (-1), 1) := by decide +kernel
theorem dX10_macro_23 : decode cX10_macro 23 = .ok (.ireturn, 1) := by decide +kernel
theorem dX10_macro_24 : decode cX10_macro 24 = .ok (.iconst 0, 1) := by decide +kernel
theorem dX10_macro_25 : decode cX10_macro 25 = .ok (.istore_n 1, 1) := by decide +kernel
theorem dX10_macro_26 : decode cX10_macro 26 = .ok (.iload_n 1, 1) := by decide +kernel
theorem dX10_macro_27 : decode cX10_macro 27 = .ok (.aload_n 0, 1) := by decide +kernel
theorem dX10_macro_28 : decode cX10_macro 28 = .ok (.getfield 132, 3) := by decide +kernel
theorem dX10_macro_31 : decode cX10_macro 31 = .ok (.if_icmp .ge 29, 3) := by decide +kernel
theorem dX10_macro_34 : decode cX10_macro 34 = .ok (.aload_n 0, 1) := by decide +kernel
theorem dX10_macro_35 : decode cX10_macro 35 = .ok (.getfield 53, 3) := by decide +kernel
theorem dX10_macro_38 : decode cX10_macro 38 = .ok (.bipush 6, 2) := by decide +kernel
theorem dX10_macro_40 : decode cX10_macro 40 = .ok (.aload_n 0, 1) := by decide +kernel
theorem dX10_macro_41 : decode cX10_macro 41 = .ok (.getfield 135, 3) := by decide +kernel
theorem dX10_macro_44 : decode cX10_macro 44 = .ok (.imul, 1) := by decide +kernel
theorem dX10_macro_45 : decode cX10_macro 45 = .ok (.iload_n 1, 1) := by decide +kernel
theorem dX10_macro_46 : decode cX10_macro 46 = .ok (.iadd, 1) := by decide +kernel
theorem dX10_macro_47 : decode cX10_macro 47 = .ok (.aload_n 0, 1) := by decide +kernel
theorem dX10_macro_48 : decode cX10_macro 48 = .ok (.getfield 56, 3) := by decide +kernel
theorem dX10_macro_51 : decode cX10_macro 51 = .ok (.iload_n 1, 1) := by decide +kernel
theorem dX10_macro_52 : decode cX10_macro 52 = .ok (.iaload, 1) := by decide +kernel
theorem dX10_macro_53 : decode cX10_macro 53 = .ok (.iastore, 1) := by decide +kernel
theorem dX10_macro_54 : decode cX10_macro 54 = .ok (.iinc 1 1, 3) := by decide +kernel
theorem dX10_macro_57 : decode cX10_macro 57 = .ok (.goto (-31), 3) := by decide +kernel
theorem dX10_macro_60 : decode cX10_macro 60 = .ok (.aload_n 0, 1) := by decide +kernel
theorem dX10_macro_61 : decode cX10_macro 61 = .ok (.getfield 50, 3) := by decide +kernel
theorem dX10_macro_64 : decode cX10_macro 64 = .ok (.aload_n 0, 1) := by decide +kernel
theorem dX10_macro_65 : decode cX10_macro 65 = .ok (.getfield 135, 3) := by decide +kernel
theorem dX10_macro_68 : decode cX10_macro 68 = .ok (.aload_n 0, 1) := by decide +kernel
theorem dX10_macro_69 : decode cX10_macro 69 = .ok (.getfield 132, 3) := by decide +kernel
theorem dX10_macro_72 : decode cX10_macro 72 = .ok (.iastore, 1) := by decide +kernel
theorem dX10_macro_73 : decode cX10_macro 73 = .ok (.aload_n 0, 1) := by decide +kernel
theorem dX10_macro_74 : decode cX10_macro 74 = .ok (.iconst 0, 1) := by decide +kernel
theorem dX10_macro_75 : decode cX10_macro 75 = .ok (.putfield 132, 3) := by decide +kernel
theorem dX10_macro_78 : decode cX10_macro 78 = .ok (.aload_n 0, 1) := by decide +kernel
theorem dX10_macro_79 : decode cX10_macro 79 = .ok (.dup, 1) := by decide +kernel
theorem dX10_macro_80 : decode cX10_macro 80 = .ok (.getfield 135, 3) := by decide +kernel
theorem dX10_macro_83 : decode cX10_macro 83 = .ok (.iconst 1, 1) := by decide +kernel
theorem dX10_macro_84 : decode cX10_macro 84 = .ok (.iadd, 1) := by decide +kernel
theorem dX10_macro_85 : decode cX10_macro 85 = .ok (.putfield 135, 3) := by decide +kernel
theorem dX10_macro_88 : decode cX10_macro 88 = .ok (.aload_n 0, 1) := by decide +kernel
theorem dX10_macro_89 : decode cX10_macro 89 = .ok (.getfield 135, 3) := by decide +kernel
theorem dX10_macro_92 : decode cX10_macro 92 = .ok (.iconst 1, 1) := by decide +kernel
theorem dX10_macro_93 : decode cX10_macro 93 = .ok (.isub, 1) := by decide +kernel
theorem dX10_macro_94 : decode cX10_macro 94 = .ok (.ireturn, 1) := by decide +kernel
theorem dX10_goal_0 : decode cX10_goal 0 = .ok (.aload_n 0, 1) := by decide +kernel
theorem dX10_goal_1 : decode cX10_goal 1 = .ok (.iconst 0, 1) := by decide +kernel
theorem dX10_goal_2 : decode cX10_goal 2 = .ok (.putfield 111, 3) := by decide +kernel
theorem dX10_goal_5 : decode cX10_goal 5 = .ok (.iload_n 1, 1) := by decide +kernel
theorem dX10_goal_6 : decode cX10_goal 6 = .ok (.ifCond .ne 29, 3) := by decide +kernel
theorem dX10_goal_9 : decode cX10_goal 9 = .ok (.aload_n 0, 1) := by decide +kernel
theorem dX10_goal_10 : decode cX10_goal 10 = .ok (.iload_n 2, 1) := by decide +kernel
theorem dX10_goal_11 : decode cX10_goal 11 = .ok (.invokevirtual 121, 3) := by decide +kernel
theorem dX10_goal_14 : decode cX10_goal 14 = .ok (.ifCond .ne 17, 3) := by decide +kernel
theorem dX10_goal_17 : decode cX10_goal 17 = .ok (.iload_n 3, 1) := by decide +kernel
theorem dX10_goal_18 : decode cX10_goal 18 = .ok (.ifCond .lt 13, 3) := by decide +kernel
theorem dX10_goal_21 : decode cX10_goal 21 = .ok (.iload_n 3, 1) := by decide +kernel
theorem dX10_goal_22 : decode cX10_goal 22 = .ok (.bipush 9, 2) := by decide +kernel
theorem dX10_goal_24 : decode cX10_goal 24 = .ok (.if_icmp .gt 7, 3) := by decide +kernel
theorem dX10_goal_27 : decode cX10_goal 27 = .ok (.iconst 1, 1) := by decide +kernel
theorem dX10_goal_28 : decode cX10_goal 28 = .ok (.goto 48, 3) := by decide +kernel
theorem dX10_goal_31 : decode cX10_goal 31 = .ok (.iconst 0, 1) := by decide +kernel
theorem dX10_goal_32 : decode cX10_goal 32 = .ok (.goto 44, 3) := by decide +kernel
theorem dX10_goal_35 : decode cX10_goal 35 = .ok (.iload_n 1, 1) := by decide +kernel
theorem dX10_goal_36 : decode cX10_goal 36 = .ok (.iconst 1, 1) := by decide +kernel
theorem dX10_goal_37 : decode cX10_goal 37 = .ok (.if_icmp .eq 34, 3) := by decide +kernel
theorem dX10_goal_40 : decode cX10_goal 40 = .ok (.iload_n 1, 1) := by decide +kernel
theorem dX10_goal_41 : decode cX10_goal 41 = .ok (.iconst 2, 1) := by decide +kernel
theorem dX10_goal_42 : decode cX10_goal 42 = .ok (.if_icmp .ne 13, 3) := by decide +kernel
theorem dX10_goal_45 : decode cX10_goal 45 = .ok (.iload_n 2, 1) := by decide +kernel
theorem dX10_goal_46 : decode cX10_goal 46 = .ok (.ifCond .lt 9, 3) := by decide +kernel
theorem dX10_goal_49 : decode cX10_goal 49 = .ok (.iload_n 2, 1) := by decide +kernel
theorem dX10_goal_50 : decode cX10_goal 50 = .ok (.bipush 32, 2) := by decide +kernel
theorem dX10_goal_52 : decode cX10_goal 52 = .ok (.if_icmp .lt 19, 3) := by decide +kernel
theorem dX10_goal_55 : decode cX10_goal 55 = .ok (.iload_n 1, 1) := by decide +kernel
theorem dX10_goal_56 : decode cX10_goal 56 = .ok (.iconst 3, 1) := by decide +kernel
theorem dX10_goal_57 : decode cX10_goal 57 = .ok (.if_icmp .ne 18, 3) := by decide +kernel
theorem dX10_goal_60 : decode cX10_goal 60 = .ok (.iload_n 2, 1) := by decide +kernel
theorem dX10_goal_61 : decode cX10_goal 61 = .ok (.iconst 1, 1) := by decide +kernel
theorem dX10_goal_62 : decode cX10_goal 62 = .ok (.if_icmp .lt 13, 3) := by decide +kernel
theorem dX10_goal_65 : decode cX10_goal 65 = .ok (.iload_n 2, 1) := by decide +kernel
theorem dX10_goal_66 : decode cX10_goal 66 = .ok (.bipush 9, 2) := by decide +kernel
theorem dX10_goal_68 : decode cX10_goal 68 = .ok (.if_icmp .gt 7, 3) := by decide +kernel
theorem dX10_goal_71 : decode cX10_goal 71 = .ok (.iconst 1, 1) := by decide +kernel
theorem dX10_goal_72 : decode cX10_goal 72 = .ok (.goto 4, 3) := by decide +kernel
theorem dX10_goal_75 : decode cX10_goal 75 = .ok (.iconst 0, 1) := by decide +kernel
theorem dX10_goal_76 : decode cX10_goal 76 = .ok (.istore 4, 2) := by decide +kernel
theorem dX10_goal_78 : decode cX10_goal 78 = .ok (.aload_n 0, 1) := by decide +kernel
theorem dX10_goal_79 : decode cX10_goal 79 = .ok (.getfield 138, 3) := by decide +kernel
theorem dX10_goal_82 : decode cX10_goal 82 = .ok (.iconst 4, 1) := by decide +kernel
theorem dX10_goal_83 : decode cX10_goal 83 = .ok (.if_icmp .eq 8, 3) := by decide +kernel
theorem dX10_goal_86 : decode cX10_goal 86 = .ok (.iload 4, 2) := by decide +kernel
theorem dX10_goal_88 : decode cX10_goal 88 = .ok (.ifCond .ne 5, 3) := by decide +kernel
theorem dX10_goal_91 : decode cX10_goal 91 = .ok (.iconst (-1), 1) := by decide +kernel
theorem dX10_goal_92 : decode cX10_goal 92 = .ok (.ireturn, 1) := by decide +kernel
theorem dX10_goal_93 : decode cX10_goal 93 = .ok (.aload_n 0, 1) := by decide +kernel
theorem dX10_goal_94 : decode cX10_goal 94 = .ok (.getfield 59, 3) := by decide +kernel
theorem dX10_goal_97 : decode cX10_goal 97 = .ok (.aload_n 0, 1) := by decide +kernel
theorem dX10_goal_98 : decode cX10_goal 98 = .ok (.getfield 138, 3) := by decide +kernel
theorem dX10_goal_101 : decode cX10_goal 101 = .ok (.iload_n 1, 1) := by decide +kernel
theorem dX10_goal_102 : decode cX10_goal 102 = .ok (.iastore, 1) := by decide +kernel
theorem dX10_goal_103 : decode cX10_goal 103 = .ok (.aload_n 0, 1) := by decide +kernel
theorem dX10_goal_104 : decode cX10_goal 104 = .ok (.getfield 62, 3) := by decide +kernel
theorem dX10_goal_107 : decode cX10_goal 107 = .ok (.aload_n 0, 1) := by decide +kernel
theorem dX10_goal_108 : decode cX10_goal 108 = .ok (.getfield 138, 3) := by decide +kernel
theorem dX10_goal_111 : decode cX10_goal 111 = .ok (.iload_n 2, 1) := by decide +kernel
theorem dX10_goal_112 : decode cX10_goal 112 = .ok (.iastore, 1) := by decide +kernel
theorem dX10_goal_113 : decode cX10_goal 113 = .ok (.aload_n 0, 1) := by decide +kernel
theorem dX10_goal_114 : decode cX10_goal 114 = .ok (.getfield 65, 3) := by decide +kernel
theorem dX10_goal_117 : decode cX10_goal 117 = .ok (.aload_n 0, 1) := by decide +kernel
theorem dX10_goal_118 : decode cX10_goal 118 = .ok (.getfield 138, 3) := by decide +kernel
theorem dX10_goal_121 : decode cX10_goal 121 = .ok (.iload_n 3, 1) := by decide +kernel
theorem dX10_goal_122 : decode cX10_goal 122 = .ok (.iastore, 1) := by decide +kernel
theorem dX10_goal_123 : decode cX10_goal 123 = .ok (.aload_n 0, 1) := by decide +kernel
theorem dX10_goal_124 : decode cX10_goal 124 = .ok (.dup, 1) := by decide +kernel
theorem dX10_goal_125 : decode cX10_goal 125 = .ok (.getfield 138, 3) := by decide +kernel
theorem dX10_goal_128 : decode cX10_goal 128 = .ok (.iconst 1, 1) := by decide +kernel
theorem dX10_goal_129 : decode cX10_goal 129 = .ok (.iadd, 1) := by decide +kernel
theorem dX10_goal_130 : decode cX10_goal 130 = .ok (.putfield 138, 3) := by decide +kernel
theorem dX10_goal_133 : decode cX10_goal 133 = .ok (.aload_n 0, 1) := by decide +kernel
theorem dX10_goal_134 : decode cX10_goal 134 = .ok (.getfield 138, 3) := by decide +kernel
theorem dX10_goal_137 : decode cX10_goal 137 = .ok (.ireturn, 1) := by decide +kernel
theorem dX10_clear_0 : decode cX10_clear 0 = .ok (.aload_n 0, 1) := by decide +kernel
theorem dX10_clear_1 : decode cX10_clear 1 = .ok (.iconst 0, 1) := by decide +kernel
theorem dX10_clear_2 : decode cX10_clear 2 = .ok (.putfield 111, 3) := by decide +kernel
theorem dX10_clear_5 : decode cX10_clear 5 = .ok (.aload_n 0, 1) := by decide +kernel
theorem dX10_clear_6 : decode cX10_clear 6 = .ok (.getfield 138, 3) := by decide +kernel
theorem dX10_clear_9 : decode cX10_clear 9 = .ok (.istore_n 1, 1) := by decide +kernel
theorem dX10_clear_10 : decode cX10_clear 10 = .ok (.aload_n 0, 1) := by decide +kernel
theorem dX10_clear_11 : decode cX10_clear 11 = .ok (.iconst 0, 1) := by decide +kernel
theorem dX10_clear_12 : decode cX10_clear 12 = .ok (.putfield 138, 3) := by decide +kernel
theorem dX10_clear_15 : decode cX10_clear 15 = .ok (.iload_n 1, 1) := by decide +kernel
theorem dX10_clear_16 : decode cX10_clear 16 = .ok (.ireturn, 1) := by decide +kernel
theorem dX10_scoreOf_0 : decode cX10_scoreOf 0 = .ok (.iconst 0, 1) := by decide +kernel
theorem dX10_scoreOf_1 : decode cX10_scoreOf 1 = .ok (.istore_n 1, 1) := by decide +kernel
theorem dX10_scoreOf_2 : decode cX10_scoreOf 2 = .ok (.iconst 0, 1) := by decide +kernel
theorem dX10_scoreOf_3 : decode cX10_scoreOf 3 = .ok (.istore_n 2, 1) := by decide +kernel
theorem dX10_scoreOf_4 : decode cX10_scoreOf 4 = .ok (.iload_n 2, 1) := by decide +kernel
theorem dX10_scoreOf_5 : decode cX10_scoreOf 5 = .ok (.aload_n 0, 1) := by decide +kernel
theorem dX10_scoreOf_6 : decode cX10_scoreOf 6 = .ok (.getfield 115, 3) := by decide +kernel
theorem dX10_scoreOf_9 : decode cX10_scoreOf 9 = .ok (.if_icmp .ge 25, 3) := by decide +kernel
theorem dX10_scoreOf_12 : decode cX10_scoreOf 12 = .ok (.iload_n 1, 1) := by decide +kernel
theorem dX10_scoreOf_13 : decode cX10_scoreOf 13 = .ok (.aload_n 0, 1) := by decide +kernel
theorem dX10_scoreOf_14 : decode cX10_scoreOf 14 = .ok (.getfield 68, 3) := by decide +kernel
theorem dX10_scoreOf_17 : decode cX10_scoreOf 17 = .ok (.iload_n 2, 1) := by decide +kernel
theorem dX10_scoreOf_18 : decode cX10_scoreOf 18 = .ok (.iaload, 1) := by decide +kernel
theorem dX10_scoreOf_19 : decode cX10_scoreOf 19 = .ok (.aload_n 0, 1) := by decide +kernel
theorem dX10_scoreOf_20 : decode cX10_scoreOf 20 = .ok (.getfield 17, 3) := by decide +kernel
theorem dX10_scoreOf_23 : decode cX10_scoreOf 23 = .ok (.iload_n 2, 1) := by decide +kernel
theorem dX10_scoreOf_24 : decode cX10_scoreOf 24 = .ok (.iaload, 1) := by decide +kernel
theorem dX10_scoreOf_25 : decode cX10_scoreOf 25 = .ok (.imul, 1) := by decide +kernel
theorem dX10_scoreOf_26 : decode cX10_scoreOf 26 = .ok (.iadd, 1) := by decide +kernel
theorem dX10_scoreOf_27 : decode cX10_scoreOf 27 = .ok (.istore_n 1, 1) := by decide +kernel
theorem dX10_scoreOf_28 : decode cX10_scoreOf 28 = .ok (.iinc 2 1, 3) := by decide +kernel
theorem dX10_scoreOf_31 : decode cX10_scoreOf 31 = .ok (.goto (-27), 3) := by decide +kernel
theorem dX10_scoreOf_34 : decode cX10_scoreOf 34 = .ok (.iload_n 1, 1) := by decide +kernel
theorem dX10_scoreOf_35 : decode cX10_scoreOf 35 = .ok (.ireturn, 1) := by decide +kernel
theorem dX10_canMove_0 : decode cX10_canMove 0 = .ok (.aload_n 0, 1) := by decide +kernel
theorem dX10_canMove_1 : decode cX10_canMove 1 = .ok (.getfield 141, 3) := by decide +kernel
theorem dX10_canMove_4 : decode cX10_canMove 4 = .ok (.ifCond .ne 7, 3) := by decide +kernel
theorem dX10_canMove_7 : decode cX10_canMove 7 = .ok (.iconst 1, 1) := by decide +kernel
theorem dX10_canMove_8 : decode cX10_canMove 8 = .ok (.goto 4, 3) := by decide +kernel
theorem dX10_canMove_11 : decode cX10_canMove 11 = .ok (.iconst 0, 1) := by decide +kernel
theorem dX10_canMove_12 : decode cX10_canMove 12 = .ok (.istore_n 2, 1) := by decide +kernel
theorem dX10_canMove_13 : decode cX10_canMove 13 = .ok (.bipush 6, 2) := by decide +kernel
theorem dX10_canMove_15 : decode cX10_canMove 15 = .ok (.iload_n 1, 1) := by decide +kernel
theorem dX10_canMove_16 : decode cX10_canMove 16 = .ok (.imul, 1) := by decide +kernel
theorem dX10_canMove_17 : decode cX10_canMove 17 = .ok (.istore_n 3, 1) := by decide +kernel
theorem dX10_canMove_18 : decode cX10_canMove 18 = .ok (.iload_n 3, 1) := by decide +kernel
theorem dX10_canMove_19 : decode cX10_canMove 19 = .ok (.bipush 6, 2) := by decide +kernel
theorem dX10_canMove_21 : decode cX10_canMove 21 = .ok (.iload_n 1, 1) := by decide +kernel
theorem dX10_canMove_22 : decode cX10_canMove 22 = .ok (.imul, 1) := by decide +kernel
theorem dX10_canMove_23 : decode cX10_canMove 23 = .ok (.aload_n 0, 1) := by decide +kernel
theorem dX10_canMove_24 : decode cX10_canMove 24 = .ok (.getfield 20, 3) := by decide +kernel
theorem dX10_canMove_27 : decode cX10_canMove 27 = .ok (.iload_n 1, 1) := by decide +kernel
theorem dX10_canMove_28 : decode cX10_canMove 28 = .ok (.iaload, 1) := by decide +kernel
theorem dX10_canMove_29 : decode cX10_canMove 29 = .ok (.iadd, 1) := by decide +kernel
theorem dX10_canMove_30 : decode cX10_canMove 30 = .ok (.if_icmp .ge 121, 3) := by decide +kernel
theorem dX10_canMove_33 : decode cX10_canMove 33 = .ok (.iload_n 2, 1) := by decide +kernel
theorem dX10_canMove_34 : decode cX10_canMove 34 = .ok (.ifCond .eq 117, 3) := by decide +kernel
theorem dX10_canMove_37 : decode cX10_canMove 37 = .ok (.aload_n 0, 1) := by decide +kernel
theorem dX10_canMove_38 : decode cX10_canMove 38 = .ok (.getfield 68, 3) := by decide +kernel
theorem dX10_canMove_41 : decode cX10_canMove 41 = .ok (.aload_n 0, 1) := by decide +kernel
theorem dX10_canMove_42 : decode cX10_canMove 42 = .ok (.getfield 23, 3) := by decide +kernel
theorem dX10_canMove_45 : decode cX10_canMove 45 = .ok (.iload_n 3, 1) := by decide +kernel
theorem dX10_canMove_46 : decode cX10_canMove 46 = .ok (.iaload, 1) := by decide +kernel
theorem dX10_canMove_47 : decode cX10_canMove 47 = .ok (.iaload, 1) := by decide +kernel
theorem dX10_canMove_48 : decode cX10_canMove 48 = .ok (.istore 4, 2) := by decide +kernel
theorem dX10_canMove_50 : decode cX10_canMove 50 = .ok (.aload_n 0, 1) := by decide +kernel
theorem dX10_canMove_51 : decode cX10_canMove 51 = .ok (.getfield 29, 3) := by decide +kernel
theorem dX10_canMove_54 : decode cX10_canMove 54 = .ok (.iload_n 3, 1) := by decide +kernel
theorem dX10_canMove_55 : decode cX10_canMove 55 = .ok (.iaload, 1) := by decide +kernel
theorem dX10_canMove_56 : decode cX10_canMove 56 = .ok (.istore 5, 2) := by decide +kernel
theorem dX10_canMove_58 : decode cX10_canMove 58 = .ok (.aload_n 0, 1) := by decide +kernel
theorem dX10_canMove_59 : decode cX10_canMove 59 = .ok (.getfield 26, 3) := by decide +kernel
theorem dX10_canMove_62 : decode cX10_canMove 62 = .ok (.iload_n 3, 1) := by decide +kernel
theorem dX10_canMove_63 : decode cX10_canMove 63 = .ok (.iaload, 1) := by decide +kernel
theorem dX10_canMove_64 : decode cX10_canMove 64 = .ok (.ifCond .ne 18, 3) := by decide +kernel
theorem dX10_canMove_67 : decode cX10_canMove 67 = .ok (.iload 4, 2) := by decide +kernel
theorem dX10_canMove_69 : decode cX10_canMove 69 = .ok (.iload 5, 2) := by decide +kernel
theorem dX10_canMove_71 : decode cX10_canMove 71 = .ok (.if_icmp .ne 7, 3) := by decide +kernel
theorem dX10_canMove_74 : decode cX10_canMove 74 = .ok (.iconst 1, 1) := by decide +kernel
theorem dX10_canMove_75 : decode cX10_canMove 75 = .ok (.goto 69, 3) := by decide +kernel
theorem dX10_canMove_78 : decode cX10_canMove 78 = .ok (.iconst 0, 1) := by decide +kernel
theorem dX10_canMove_79 : decode cX10_canMove 79 = .ok (.goto 65, 3) := by decide +kernel
theorem dX10_canMove_82 : decode cX10_canMove 82 = .ok (.aload_n 0, 1) := by decide +kernel
theorem dX10_canMove_83 : decode cX10_canMove 83 = .ok (.getfield 26, 3) := by decide +kernel
theorem dX10_canMove_86 : decode cX10_canMove 86 = .ok (.iload_n 3, 1) := by decide +kernel
theorem dX10_canMove_87 : decode cX10_canMove 87 = .ok (.iaload, 1) := by decide +kernel
theorem dX10_canMove_88 : decode cX10_canMove 88 = .ok (.iconst 1, 1) := by decide +kernel
theorem dX10_canMove_89 : decode cX10_canMove 89 = .ok (.if_icmp .ne 18, 3) := by decide +kernel
theorem dX10_canMove_92 : decode cX10_canMove 92 = .ok (.iload 4, 2) := by decide +kernel
theorem dX10_canMove_94 : decode cX10_canMove 94 = .ok (.iload 5, 2) := by decide +kernel
theorem dX10_canMove_96 : decode cX10_canMove 96 = .ok (.if_icmp .eq 7, 3) := by decide +kernel
theorem dX10_canMove_99 : decode cX10_canMove 99 = .ok (.iconst 1, 1) := by decide +kernel
theorem dX10_canMove_100 : decode cX10_canMove 100 = .ok (.goto 44, 3) := by decide +kernel
theorem dX10_canMove_103 : decode cX10_canMove 103 = .ok (.iconst 0, 1) := by decide +kernel
theorem dX10_canMove_104 : decode cX10_canMove 104 = .ok (.goto 40, 3) := by decide +kernel
theorem dX10_canMove_107 : decode cX10_canMove 107 = .ok (.aload_n 0, 1) := by decide +kernel
theorem dX10_canMove_108 : decode cX10_canMove 108 = .ok (.getfield 26, 3) := by decide +kernel
theorem dX10_canMove_111 : decode cX10_canMove 111 = .ok (.iload_n 3, 1) := by decide +kernel
theorem dX10_canMove_112 : decode cX10_canMove 112 = .ok (.iaload, 1) := by decide +kernel
theorem dX10_canMove_113 : decode cX10_canMove 113 = .ok (.iconst 2, 1) := by decide +kernel
theorem dX10_canMove_114 : decode cX10_canMove 114 = .ok (.if_icmp .ne 18, 3) := by decide +kernel
theorem dX10_canMove_117 : decode cX10_canMove 117 = .ok (.iload 4, 2) := by decide +kernel
theorem dX10_canMove_119 : decode cX10_canMove 119 = .ok (.iload 5, 2) := by decide +kernel
theorem dX10_canMove_121 : decode cX10_canMove 121 = .ok (.if_icmp .ge 7, 3) := by decide +kernel
theorem dX10_canMove_124 : decode cX10_canMove 124 = .ok (.iconst 1, 1) := by decide +kernel
theorem dX10_canMove_125 : decode cX10_canMove 125 = .ok (.goto 19, 3) := by decide +kernel
theorem dX10_canMove_128 : decode cX10_canMove 128 = .ok (.iconst 0, 1) := by decide +kernel
theorem dX10_canMove_129 : decode cX10_canMove 129 = .ok (.goto 15, 3) := by decide +kernel
theorem dX10_canMove_132 : decode cX10_canMove 132 = .ok (.iload 4, 2) := by decide +kernel
theorem dX10_canMove_134 : decode cX10_canMove 134 = .ok (.iload 5, 2) := by decide +kernel
theorem dX10_canMove_136 : decode cX10_canMove 136 = .ok (.if_icmp .le 7, 3) := by decide +kernel
theorem dX10_canMove_139 : decode cX10_canMove 139 = .ok (.iconst 1, 1) := by decide +kernel
theorem dX10_canMove_140 : decode cX10_canMove 140 = .ok (.goto 4, 3) := by decide +kernel
theorem dX10_canMove_143 : decode cX10_canMove 143 = .ok (.iconst 0, 1) := by decide +kernel
theorem dX10_canMove_144 : decode cX10_canMove 144 = .ok (.istore_n 2, 1) := by decide +kernel
theorem dX10_canMove_145 : decode cX10_canMove 145 = .ok (.iinc 3 1, 3) := by decide +kernel
theorem dX10_canMove_148 : decode cX10_canMove 148 = .ok (.goto (-130), 3) := by decide +kernel
theorem dX10_canMove_151 : decode cX10_canMove 151 = .ok (.iload_n 2, 1) := by decide +kernel
theorem dX10_canMove_152 : decode cX10_canMove 152 = .ok (.ireturn, 1) := by decide +kernel
theorem dX10_chance_0 : decode cX10_chance 0 = .ok (.lconst 0, 1) := by decide +kernel
theorem dX10_chance_1 : decode cX10_chance 1 = .ok (.lstore_n 2, 1) := by decide +kernel
theorem dX10_chance_2 : decode cX10_chance 2 = .ok (.iconst 0, 1) := by decide +kernel
theorem dX10_chance_3 : decode cX10_chance 3 = .ok (.istore 4, 2) := by decide +kernel
theorem dX10_chance_5 : decode cX10_chance 5 = .ok (.iload 4, 2) := by decide +kernel
theorem dX10_chance_7 : decode cX10_chance 7 = .ok (.aload_n 0, 1) := by decide +kernel
theorem dX10_chance_8 : decode cX10_chance 8 = .ok (.getfield 115, 3) := by decide +kernel
theorem dX10_chance_11 : decode cX10_chance 11 = .ok (.if_icmp .ge 30, 3) := by decide +kernel
theorem dX10_chance_14 : decode cX10_chance 14 = .ok (.ldc2_w 144, 3) := by decide +kernel
theorem dX10_chance_17 : decode cX10_chance 17 = .ok (.lload_n 2, 1) := by decide +kernel
theorem dX10_chance_18 : decode cX10_chance 18 = .ok (.lmul, 1) := by decide +kernel
theorem dX10_chance_19 : decode cX10_chance 19 = .ok (.aload_n 0, 1) := by decide +kernel
theorem dX10_chance_20 : decode cX10_chance 20 = .ok (.getfield 68, 3) := by decide +kernel
theorem dX10_chance_23 : decode cX10_chance 23 = .ok (.iload 4, 2) := by decide +kernel
theorem dX10_chance_25 : decode cX10_chance 25 = .ok (.iaload, 1) := by decide +kernel
theorem dX10_chance_26 : decode cX10_chance 26 = .ok (.iconst 1, 1) := by decide +kernel
theorem dX10_chance_27 : decode cX10_chance 27 = .ok (.iadd, 1) := by decide +kernel
theorem dX10_chance_28 : decode cX10_chance 28 = .ok (.i2l, 1) := by decide +kernel
theorem dX10_chance_29 : decode cX10_chance 29 = .ok (.ladd, 1) := by decide +kernel
theorem dX10_chance_30 : decode cX10_chance 30 = .ok (.ldc2_w 146, 3) := by decide +kernel
theorem dX10_chance_33 : decode cX10_chance 33 = .ok (.lrem, 1) := by decide +kernel
theorem dX10_chance_34 : decode cX10_chance 34 = .ok (.lstore_n 2, 1) := by decide +kernel
theorem dX10_chance_35 : decode cX10_chance 35 = .ok (.iinc 4 1, 3) := by decide +kernel
theorem dX10_chance_38 : decode cX10_chance 38 = .ok (.goto (-33), 3) := by decide +kernel
theorem dX10_chance_41 : decode cX10_chance 41 = .ok (.ldc2_w 144, 3) := by decide +kernel
theorem dX10_chance_44 : decode cX10_chance 44 = .ok (.lload_n 2, 1) := by decide +kernel
theorem dX10_chance_45 : decode cX10_chance 45 = .ok (.lmul, 1) := by decide +kernel
theorem dX10_chance_46 : decode cX10_chance 46 = .ok (.iload_n 1, 1) := by decide +kernel
theorem dX10_chance_47 : decode cX10_chance 47 = .ok (.iconst 1, 1) := by decide +kernel
theorem dX10_chance_48 : decode cX10_chance 48 = .ok (.iadd, 1) := by decide +kernel
theorem dX10_chance_49 : decode cX10_chance 49 = .ok (.i2l, 1) := by decide +kernel
theorem dX10_chance_50 : decode cX10_chance 50 = .ok (.ladd, 1) := by decide +kernel
theorem dX10_chance_51 : decode cX10_chance 51 = .ok (.ldc2_w 146, 3) := by decide +kernel
theorem dX10_chance_54 : decode cX10_chance 54 = .ok (.lrem, 1) := by decide +kernel
theorem dX10_chance_55 : decode cX10_chance 55 = .ok (.lreturn, 1) := by decide +kernel
theorem dX10_doMove_0 : decode cX10_doMove 0 = .ok (.aload_n 0, 1) := by decide +kernel
theorem dX10_doMove_1 : decode cX10_doMove 1 = .ok (.iload_n 1, 1) := by decide +kernel
theorem dX10_doMove_2 : decode cX10_doMove 2 = .ok (.invokevirtual 148, 3) := by decide +kernel
theorem dX10_doMove_5 : decode cX10_doMove 5 = .ok (.lstore_n 2, 1) := by decide +kernel
theorem dX10_doMove_6 : decode cX10_doMove 6 = .ok (.bipush 6, 2) := by decide +kernel
theorem dX10_doMove_8 : decode cX10_doMove 8 = .ok (.iload_n 1, 1) := by decide +kernel
theorem dX10_doMove_9 : decode cX10_doMove 9 = .ok (.imul, 1) := by decide +kernel
theorem dX10_doMove_10 : decode cX10_doMove 10 = .ok (.istore 4, 2) := by decide +kernel
theorem dX10_doMove_12 : decode cX10_doMove 12 = .ok (.iload 4, 2) := by decide +kernel
theorem dX10_doMove_14 : decode cX10_doMove 14 = .ok (.bipush 6, 2) := by decide +kernel
theorem dX10_doMove_16 : decode cX10_doMove 16 = .ok (.iload_n 1, 1) := by decide +kernel
theorem dX10_doMove_17 : decode cX10_doMove 17 = .ok (.imul, 1) := by decide +kernel
theorem dX10_doMove_18 : decode cX10_doMove 18 = .ok (.aload_n 0, 1) := by decide +kernel
theorem dX10_doMove_19 : decode cX10_doMove 19 = .ok (.getfield 32, 3) := by decide +kernel
theorem dX10_doMove_22 : decode cX10_doMove 22 = .ok (.iload_n 1, 1) := by decide +kernel
theorem dX10_doMove_23 : decode cX10_doMove 23 = .ok (.iaload, 1) := by decide +kernel
theorem dX10_doMove_24 : decode cX10_doMove 24 = .ok (.iadd, 1) := by decide +kernel
theorem dX10_doMove_25 : decode cX10_doMove 25 = .ok (.if_icmp .ge 129, 3) := by decide +kernel
theorem dX10_doMove_28 : decode cX10_doMove 28 = .ok (.aload_n 0, 1) := by decide +kernel
theorem dX10_doMove_29 : decode cX10_doMove 29 = .ok (.getfield 38, 3) := by decide +kernel
theorem dX10_doMove_32 : decode cX10_doMove 32 = .ok (.iload 4, 2) := by decide +kernel
theorem dX10_doMove_34 : decode cX10_doMove 34 = .ok (.iaload, 1) := by decide +kernel
theorem dX10_doMove_35 : decode cX10_doMove 35 = .ok (.istore 5, 2) := by decide +kernel
theorem dX10_doMove_37 : decode cX10_doMove 37 = .ok (.aload_n 0, 1) := by decide +kernel
theorem dX10_doMove_38 : decode cX10_doMove 38 = .ok (.getfield 41, 3) := by decide +kernel
theorem dX10_doMove_41 : decode cX10_doMove 41 = .ok (.iload 4, 2) := by decide +kernel
theorem dX10_doMove_43 : decode cX10_doMove 43 = .ok (.iaload, 1) := by decide +kernel
theorem dX10_doMove_44 : decode cX10_doMove 44 = .ok (.istore 6, 2) := by decide +kernel
theorem dX10_doMove_46 : decode cX10_doMove 46 = .ok (.aload_n 0, 1) := by decide +kernel
theorem dX10_doMove_47 : decode cX10_doMove 47 = .ok (.getfield 35, 3) := by decide +kernel
theorem dX10_doMove_50 : decode cX10_doMove 50 = .ok (.iload 4, 2) := by decide +kernel
theorem dX10_doMove_52 : decode cX10_doMove 52 = .ok (.iaload, 1) := by decide +kernel
theorem dX10_doMove_53 : decode cX10_doMove 53 = .ok (.tableswitch 82 0 2 #[27, 39, 65], 27) := by decide +kernel
theorem dX10_doMove_80 : decode cX10_doMove 80 = .ok (.aload_n 0, 1) := by decide +kernel
theorem dX10_doMove_81 : decode cX10_doMove 81 = .ok (.getfield 68, 3) := by decide +kernel
theorem dX10_doMove_84 : decode cX10_doMove 84 = .ok (.iload 5, 2) := by decide +kernel
theorem dX10_doMove_86 : decode cX10_doMove 86 = .ok (.iload 6, 2) := by decide +kernel
theorem dX10_doMove_88 : decode cX10_doMove 88 = .ok (.iastore, 1) := by decide +kernel
theorem dX10_doMove_89 : decode cX10_doMove 89 = .ok (.goto 59, 3) := by decide +kernel
theorem dX10_doMove_92 : decode cX10_doMove 92 = .ok (.aload_n 0, 1) := by decide +kernel
theorem dX10_doMove_93 : decode cX10_doMove 93 = .ok (.getfield 68, 3) := by decide +kernel
theorem dX10_doMove_96 : decode cX10_doMove 96 = .ok (.iload 5, 2) := by decide +kernel
theorem dX10_doMove_98 : decode cX10_doMove 98 = .ok (.aload_n 0, 1) := by decide +kernel
theorem dX10_doMove_99 : decode cX10_doMove 99 = .ok (.getfield 68, 3) := by decide +kernel
theorem dX10_doMove_102 : decode cX10_doMove 102 = .ok (.iload 5, 2) := by decide +kernel
theorem dX10_doMove_104 : decode cX10_doMove 104 = .ok (.iaload, 1) := by decide +kernel
theorem dX10_doMove_105 : decode cX10_doMove 105 = .ok (.iload 6, 2) := by decide +kernel
theorem dX10_doMove_107 : decode cX10_doMove 107 = .ok (.iadd, 1) := by decide +kernel
theorem dX10_doMove_108 : decode cX10_doMove 108 = .ok (.bipush 10, 2) := by decide +kernel
theorem dX10_doMove_110 : decode cX10_doMove 110 = .ok (.iadd, 1) := by decide +kernel
theorem dX10_doMove_111 : decode cX10_doMove 111 = .ok (.bipush 10, 2) := by decide +kernel
theorem dX10_doMove_113 : decode cX10_doMove 113 = .ok (.irem, 1) := by decide +kernel
theorem dX10_doMove_114 : decode cX10_doMove 114 = .ok (.iastore, 1) := by decide +kernel
theorem dX10_doMove_115 : decode cX10_doMove 115 = .ok (.goto 33, 3) := by decide +kernel
theorem dX10_doMove_118 : decode cX10_doMove 118 = .ok (.aload_n 0, 1) := by decide +kernel
theorem dX10_doMove_119 : decode cX10_doMove 119 = .ok (.getfield 68, 3) := by decide +kernel
theorem dX10_doMove_122 : decode cX10_doMove 122 = .ok (.iload 5, 2) := by decide +kernel
theorem dX10_doMove_124 : decode cX10_doMove 124 = .ok (.aload_n 0, 1) := by decide +kernel
theorem dX10_doMove_125 : decode cX10_doMove 125 = .ok (.getfield 68, 3) := by decide +kernel
theorem dX10_doMove_128 : decode cX10_doMove 128 = .ok (.iload 6, 2) := by decide +kernel
theorem dX10_doMove_130 : decode cX10_doMove 130 = .ok (.iaload, 1) := by decide +kernel
theorem dX10_doMove_131 : decode cX10_doMove 131 = .ok (.iastore, 1) := by decide +kernel
theorem dX10_doMove_132 : decode cX10_doMove 132 = .ok (.goto 16, 3) := by decide +kernel
theorem dX10_doMove_135 : decode cX10_doMove 135 = .ok (.aload_n 0, 1) := by decide +kernel
theorem dX10_doMove_136 : decode cX10_doMove 136 = .ok (.getfield 68, 3) := by decide +kernel
theorem dX10_doMove_139 : decode cX10_doMove 139 = .ok (.iload 5, 2) := by decide +kernel
theorem dX10_doMove_141 : decode cX10_doMove 141 = .ok (.lload_n 2, 1) := by decide +kernel
theorem dX10_doMove_142 : decode cX10_doMove 142 = .ok (.iload 6, 2) := by decide +kernel
theorem dX10_doMove_144 : decode cX10_doMove 144 = .ok (.i2l, 1) := by decide +kernel
theorem dX10_doMove_145 : decode cX10_doMove 145 = .ok (.lrem, 1) := by decide +kernel
theorem dX10_doMove_146 : decode cX10_doMove 146 = .ok (.l2i, 1) := by decide +kernel
theorem dX10_doMove_147 : decode cX10_doMove 147 = .ok (.iastore, 1) := by decide +kernel
theorem dX10_doMove_148 : decode cX10_doMove 148 = .ok (.iinc 4 1, 3) := by decide +kernel
theorem dX10_doMove_151 : decode cX10_doMove 151 = .ok (.goto (-139), 3) := by decide +kernel
theorem dX10_doMove_154 : decode cX10_doMove 154 = .ok (.aload_n 0, 1) := by decide +kernel
theorem dX10_doMove_155 : decode cX10_doMove 155 = .ok (.aload_n 0, 1) := by decide +kernel
theorem dX10_doMove_156 : decode cX10_doMove 156 = .ok (.getfield 47, 3) := by decide +kernel
theorem dX10_doMove_159 : decode cX10_doMove 159 = .ok (.iload_n 1, 1) := by decide +kernel
theorem dX10_doMove_160 : decode cX10_doMove 160 = .ok (.iaload, 1) := by decide +kernel
theorem dX10_doMove_161 : decode cX10_doMove 161 = .ok (.putfield 141, 3) := by decide +kernel
theorem dX10_doMove_164 : decode cX10_doMove 164 = .ok (.aload_n 0, 1) := by decide +kernel
theorem dX10_doMove_165 : decode cX10_doMove 165 = .ok (.aload_n 0, 1) := by decide +kernel
theorem dX10_doMove_166 : decode cX10_doMove 166 = .ok (.getfield 44, 3) := by decide +kernel
theorem dX10_doMove_169 : decode cX10_doMove 169 = .ok (.iload_n 1, 1) := by decide +kernel
theorem dX10_doMove_170 : decode cX10_doMove 170 = .ok (.iaload, 1) := by decide +kernel
theorem dX10_doMove_171 : decode cX10_doMove 171 = .ok (.putfield 152, 3) := by decide +kernel
theorem dX10_doMove_174 : decode cX10_doMove 174 = .ok (.return_, 1) := by decide +kernel
theorem dX10_doStep_0 : decode cX10_doStep 0 = .ok (.aload_n 0, 1) := by decide +kernel
theorem dX10_doStep_1 : decode cX10_doStep 1 = .ok (.iconst 0, 1) := by decide +kernel
theorem dX10_doStep_2 : decode cX10_doStep 2 = .ok (.putfield 155, 3) := by decide +kernel
theorem dX10_doStep_5 : decode cX10_doStep 5 = .ok (.iload_n 1, 1) := by decide +kernel
theorem dX10_doStep_6 : decode cX10_doStep 6 = .ok (.bipush 100, 2) := by decide +kernel
theorem dX10_doStep_8 : decode cX10_doStep 8 = .ok (.if_icmp .ge 7, 3) := by decide +kernel
theorem dX10_doStep_11 : decode cX10_doStep 11 = .ok (.iconst 1, 1) := by decide +kernel
theorem dX10_doStep_12 : decode cX10_doStep 12 = .ok (.goto 12, 3) := by decide +kernel
theorem dX10_doStep_15 : decode cX10_doStep 15 = .ok (.aload_n 0, 1) := by decide +kernel
theorem dX10_doStep_16 : decode cX10_doStep 16 = .ok (.getfield 50, 3) := by decide +kernel
theorem dX10_doStep_19 : decode cX10_doStep 19 = .ok (.iload_n 1, 1) := by decide +kernel
theorem dX10_doStep_20 : decode cX10_doStep 20 = .ok (.bipush 100, 2) := by decide +kernel
theorem dX10_doStep_22 : decode cX10_doStep 22 = .ok (.isub, 1) := by decide +kernel
theorem dX10_doStep_23 : decode cX10_doStep 23 = .ok (.iaload, 1) := by decide +kernel
theorem dX10_doStep_24 : decode cX10_doStep 24 = .ok (.istore_n 2, 1) := by decide +kernel
theorem dX10_doStep_25 : decode cX10_doStep 25 = .ok (.iconst 0, 1) := by decide +kernel
theorem dX10_doStep_26 : decode cX10_doStep 26 = .ok (.istore_n 3, 1) := by decide +kernel
theorem dX10_doStep_27 : decode cX10_doStep 27 = .ok (.iload_n 3, 1) := by decide +kernel
theorem dX10_doStep_28 : decode cX10_doStep 28 = .ok (.iload_n 2, 1) := by decide +kernel
theorem dX10_doStep_29 : decode cX10_doStep 29 = .ok (.if_icmp .ge 84, 3) := by decide +kernel
theorem dX10_doStep_32 : decode cX10_doStep 32 = .ok (.iload_n 1, 1) := by decide +kernel
theorem dX10_doStep_33 : decode cX10_doStep 33 = .ok (.bipush 100, 2) := by decide +kernel
theorem dX10_doStep_35 : decode cX10_doStep 35 = .ok (.if_icmp .ge 7, 3) := by decide +kernel
theorem dX10_doStep_38 : decode cX10_doStep 38 = .ok (.iload_n 1, 1) := by decide +kernel
theorem dX10_doStep_39 : decode cX10_doStep 39 = .ok (.goto 17, 3) := by decide +kernel
theorem dX10_doStep_42 : decode cX10_doStep 42 = .ok (.aload_n 0, 1) := by decide +kernel
theorem dX10_doStep_43 : decode cX10_doStep 43 = .ok (.getfield 53, 3) := by decide +kernel
theorem dX10_doStep_46 : decode cX10_doStep 46 = .ok (.bipush 6, 2) := by decide +kernel
theorem dX10_doStep_48 : decode cX10_doStep 48 = .ok (.iload_n 1, 1) := by decide +kernel
theorem dX10_doStep_49 : decode cX10_doStep 49 = .ok (.bipush 100, 2) := by decide +kernel
theorem dX10_doStep_51 : decode cX10_doStep 51 = .ok (.isub, 1) := by decide +kernel
theorem dX10_doStep_52 : decode cX10_doStep 52 = .ok (.imul, 1) := by decide +kernel
theorem dX10_doStep_53 : decode cX10_doStep 53 = .ok (.iload_n 3, 1) := by decide +kernel
theorem dX10_doStep_54 : decode cX10_doStep 54 = .ok (.iadd, 1) := by decide +kernel
theorem dX10_doStep_55 : decode cX10_doStep 55 = .ok (.iaload, 1) := by decide +kernel
theorem dX10_doStep_56 : decode cX10_doStep 56 = .ok (.istore 4, 2) := by decide +kernel
theorem dX10_doStep_58 : decode cX10_doStep 58 = .ok (.aload_n 0, 1) := by decide +kernel
theorem dX10_doStep_59 : decode cX10_doStep 59 = .ok (.iload 4, 2) := by decide +kernel
theorem dX10_doStep_61 : decode cX10_doStep 61 = .ok (.invokevirtual 158, 3) := by decide +kernel
theorem dX10_doStep_64 : decode cX10_doStep 64 = .ok (.ifCond .ne 5, 3) := by decide +kernel
theorem dX10_doStep_67 : decode cX10_doStep 67 = .ok (.iconst 0, 1) := by decide +kernel
theorem dX10_doStep_68 : decode cX10_doStep 68 = .ok (.ireturn, 1) := by decide +kernel
theorem dX10_doStep_69 : decode cX10_doStep 69 = .ok (.aload_n 0, 1) := by decide +kernel
theorem dX10_doStep_70 : decode cX10_doStep 70 = .ok (.iload 4, 2) := by decide +kernel
theorem dX10_doStep_72 : decode cX10_doStep 72 = .ok (.invokevirtual 161, 3) := by decide +kernel
theorem dX10_doStep_75 : decode cX10_doStep 75 = .ok (.aload_n 0, 1) := by decide +kernel
theorem dX10_doStep_76 : decode cX10_doStep 76 = .ok (.dup, 1) := by decide +kernel
theorem dX10_doStep_77 : decode cX10_doStep 77 = .ok (.getfield 155, 3) := by decide +kernel
theorem dX10_doStep_80 : decode cX10_doStep 80 = .ok (.aload_n 0, 1) := by decide +kernel
theorem dX10_doStep_81 : decode cX10_doStep 81 = .ok (.getfield 44, 3) := by decide +kernel
theorem dX10_doStep_84 : decode cX10_doStep 84 = .ok (.iload 4, 2) := by decide +kernel
theorem dX10_doStep_86 : decode cX10_doStep 86 = .ok (.iaload, 1) := by decide +kernel
theorem dX10_doStep_87 : decode cX10_doStep 87 = .ok (.ifCond .lt 15, 3) := by decide +kernel
theorem dX10_doStep_90 : decode cX10_doStep 90 = .ok (.iconst 1, 1) := by decide +kernel
theorem dX10_doStep_91 : decode cX10_doStep 91 = .ok (.aload_n 0, 1) := by decide +kernel
theorem dX10_doStep_92 : decode cX10_doStep 92 = .ok (.getfield 44, 3) := by decide +kernel
theorem dX10_doStep_95 : decode cX10_doStep 95 = .ok (.iload 4, 2) := by decide +kernel
theorem dX10_doStep_97 : decode cX10_doStep 97 = .ok (.iaload, 1) := by decide +kernel
theorem dX10_doStep_98 : decode cX10_doStep 98 = .ok (.ishl, 1) := by decide +kernel
theorem dX10_doStep_99 : decode cX10_doStep 99 = .ok (.goto 4, 3) := by decide +kernel
theorem dX10_doStep_102 : decode cX10_doStep 102 = .ok (.iconst 0, 1) := by decide +kernel
theorem dX10_doStep_103 : decode cX10_doStep 103 = .ok (.ior, 1) := by decide +kernel
theorem dX10_doStep_104 : decode cX10_doStep 104 = .ok (.putfield 155, 3) := by decide +kernel
theorem dX10_doStep_107 : decode cX10_doStep 107 = .ok (.iinc 3 1, 3) := by decide +kernel
theorem dX10_doStep_110 : decode cX10_doStep 110 = .ok (.goto (-83), 3) := by decide +kernel
theorem dX10_doStep_113 : decode cX10_doStep 113 = .ok (.iconst 1, 1) := by decide +kernel
theorem dX10_doStep_114 : decode cX10_doStep 114 = .ok (.ireturn, 1) := by decide +kernel
theorem dX10_meets_0 : decode cX10_meets 0 = .ok (.aload_n 0, 1) := by decide +kernel
theorem dX10_meets_1 : decode cX10_meets 1 = .ok (.getfield 138, 3) := by decide +kernel
theorem dX10_meets_4 : decode cX10_meets 4 = .ok (.ifCond .le 7, 3) := by decide +kernel
theorem dX10_meets_7 : decode cX10_meets 7 = .ok (.iconst 1, 1) := by decide +kernel
theorem dX10_meets_8 : decode cX10_meets 8 = .ok (.goto 4, 3) := by decide +kernel
theorem dX10_meets_11 : decode cX10_meets 11 = .ok (.iconst 0, 1) := by decide +kernel
theorem dX10_meets_12 : decode cX10_meets 12 = .ok (.istore_n 2, 1) := by decide +kernel
theorem dX10_meets_13 : decode cX10_meets 13 = .ok (.iconst 0, 1) := by decide +kernel
theorem dX10_meets_14 : decode cX10_meets 14 = .ok (.istore_n 3, 1) := by decide +kernel
theorem dX10_meets_15 : decode cX10_meets 15 = .ok (.iload_n 3, 1) := by decide +kernel
theorem dX10_meets_16 : decode cX10_meets 16 = .ok (.aload_n 0, 1) := by decide +kernel
theorem dX10_meets_17 : decode cX10_meets 17 = .ok (.getfield 138, 3) := by decide +kernel
theorem dX10_meets_20 : decode cX10_meets 20 = .ok (.if_icmp .ge 134, 3) := by decide +kernel
theorem dX10_meets_23 : decode cX10_meets 23 = .ok (.iload_n 2, 1) := by decide +kernel
theorem dX10_meets_24 : decode cX10_meets 24 = .ok (.ifCond .eq 130, 3) := by decide +kernel
theorem dX10_meets_27 : decode cX10_meets 27 = .ok (.aload_n 0, 1) := by decide +kernel
theorem dX10_meets_28 : decode cX10_meets 28 = .ok (.getfield 62, 3) := by decide +kernel
theorem dX10_meets_31 : decode cX10_meets 31 = .ok (.iload_n 3, 1) := by decide +kernel
theorem dX10_meets_32 : decode cX10_meets 32 = .ok (.iaload, 1) := by decide +kernel
theorem dX10_meets_33 : decode cX10_meets 33 = .ok (.istore 4, 2) := by decide +kernel
theorem dX10_meets_35 : decode cX10_meets 35 = .ok (.aload_n 0, 1) := by decide +kernel
theorem dX10_meets_36 : decode cX10_meets 36 = .ok (.getfield 59, 3) := by decide +kernel
theorem dX10_meets_39 : decode cX10_meets 39 = .ok (.iload_n 3, 1) := by decide +kernel
theorem dX10_meets_40 : decode cX10_meets 40 = .ok (.iaload, 1) := by decide +kernel
theorem dX10_meets_41 : decode cX10_meets 41 = .ok (.tableswitch 92 0 2 #[27, 52, 70], 27) := by decide +kernel
theorem dX10_meets_68 : decode cX10_meets 68 = .ok (.aload_n 0, 1) := by decide +kernel
theorem dX10_meets_69 : decode cX10_meets 69 = .ok (.getfield 68, 3) := by decide +kernel
theorem dX10_meets_72 : decode cX10_meets 72 = .ok (.iload 4, 2) := by decide +kernel
theorem dX10_meets_74 : decode cX10_meets 74 = .ok (.iaload, 1) := by decide +kernel
theorem dX10_meets_75 : decode cX10_meets 75 = .ok (.aload_n 0, 1) := by decide +kernel
theorem dX10_meets_76 : decode cX10_meets 76 = .ok (.getfield 65, 3) := by decide +kernel
theorem dX10_meets_79 : decode cX10_meets 79 = .ok (.iload_n 3, 1) := by decide +kernel
theorem dX10_meets_80 : decode cX10_meets 80 = .ok (.iaload, 1) := by decide +kernel
theorem dX10_meets_81 : decode cX10_meets 81 = .ok (.if_icmp .ne 7, 3) := by decide +kernel
theorem dX10_meets_84 : decode cX10_meets 84 = .ok (.iconst 1, 1) := by decide +kernel
theorem dX10_meets_85 : decode cX10_meets 85 = .ok (.goto 4, 3) := by decide +kernel
theorem dX10_meets_88 : decode cX10_meets 88 = .ok (.iconst 0, 1) := by decide +kernel
theorem dX10_meets_89 : decode cX10_meets 89 = .ok (.istore_n 2, 1) := by decide +kernel
theorem dX10_meets_90 : decode cX10_meets 90 = .ok (.goto 58, 3) := by decide +kernel
theorem dX10_meets_93 : decode cX10_meets 93 = .ok (.aload_n 0, 1) := by decide +kernel
theorem dX10_meets_94 : decode cX10_meets 94 = .ok (.invokevirtual 165, 3) := by decide +kernel
theorem dX10_meets_97 : decode cX10_meets 97 = .ok (.iload 4, 2) := by decide +kernel
theorem dX10_meets_99 : decode cX10_meets 99 = .ok (.if_icmp .lt 7, 3) := by decide +kernel
theorem dX10_meets_102 : decode cX10_meets 102 = .ok (.iconst 1, 1) := by decide +kernel
theorem dX10_meets_103 : decode cX10_meets 103 = .ok (.goto 4, 3) := by decide +kernel
theorem dX10_meets_106 : decode cX10_meets 106 = .ok (.iconst 0, 1) := by decide +kernel
theorem dX10_meets_107 : decode cX10_meets 107 = .ok (.istore_n 2, 1) := by decide +kernel
theorem dX10_meets_108 : decode cX10_meets 108 = .ok (.goto 40, 3) := by decide +kernel
theorem dX10_meets_111 : decode cX10_meets 111 = .ok (.iload_n 1, 1) := by decide +kernel
theorem dX10_meets_112 : decode cX10_meets 112 = .ok (.ifCond .eq 12, 3) := by decide +kernel
theorem dX10_meets_115 : decode cX10_meets 115 = .ok (.aload_n 0, 1) := by decide +kernel
theorem dX10_meets_116 : decode cX10_meets 116 = .ok (.getfield 152, 3) := by decide +kernel
theorem dX10_meets_119 : decode cX10_meets 119 = .ok (.iload 4, 2) := by decide +kernel
