theorem dX9_init_0 : decode cX9_init 0 = .ok (.aload_n 0, 1) := by decide +kernel
theorem dX9_init_1 : decode cX9_init 1 = .ok (.invokespecial 1, 3) := by decide +kernel
theorem dX9_init_4 : decode cX9_init 4 = .ok (.aload_n 0, 1) := by decide +kernel
theorem dX9_init_5 : decode cX9_init 5 = .ok (.bipush 12, 2) := by decide +kernel
theorem dX9_init_7 : decode cX9_init 7 = .ok (.newarray .int, 2) := by decide +kernel
theorem dX9_init_9 : decode cX9_init 9 = .ok (.putfield 7, 3) := by decide +kernel
theorem dX9_init_12 : decode cX9_init 12 = .ok (.aload_n 0, 1) := by decide +kernel
theorem dX9_init_13 : decode cX9_init 13 = .ok (.bipush 12, 2) := by decide +kernel
theorem dX9_init_15 : decode cX9_init 15 = .ok (.newarray .int, 2) := by decide +kernel
theorem dX9_init_17 : decode cX9_init 17 = .ok (.putfield 13, 3) := by decide +kernel
theorem dX9_init_20 : decode cX9_init 20 = .ok (.aload_n 0, 1) := by decide +kernel
theorem dX9_init_21 : decode cX9_init 21 = .ok (.bipush 12, 2) := by decide +kernel
theorem dX9_init_23 : decode cX9_init 23 = .ok (.newarray .int, 2) := by decide +kernel
theorem dX9_init_25 : decode cX9_init 25 = .ok (.putfield 16, 3) := by decide +kernel
theorem dX9_init_28 : decode cX9_init 28 = .ok (.aload_n 0, 1) := by decide +kernel
theorem dX9_init_29 : decode cX9_init 29 = .ok (.bipush 12, 2) := by decide +kernel
theorem dX9_init_31 : decode cX9_init 31 = .ok (.newarray .int, 2) := by decide +kernel
theorem dX9_init_33 : decode cX9_init 33 = .ok (.putfield 19, 3) := by decide +kernel
theorem dX9_init_36 : decode cX9_init 36 = .ok (.aload_n 0, 1) := by decide +kernel
theorem dX9_init_37 : decode cX9_init 37 = .ok (.bipush 12, 2) := by decide +kernel
theorem dX9_init_39 : decode cX9_init 39 = .ok (.newarray .boolean, 2) := by decide +kernel
theorem dX9_init_41 : decode cX9_init 41 = .ok (.putfield 22, 3) := by decide +kernel
theorem dX9_init_44 : decode cX9_init 44 = .ok (.aload_n 0, 1) := by decide +kernel
theorem dX9_init_45 : decode cX9_init 45 = .ok (.bipush 30, 2) := by decide +kernel
theorem dX9_init_47 : decode cX9_init 47 = .ok (.newarray .boolean, 2) := by decide +kernel
theorem dX9_init_49 : decode cX9_init 49 = .ok (.putfield 26, 3) := by decide +kernel
theorem dX9_init_52 : decode cX9_init 52 = .ok (.aload_n 0, 1) := by decide +kernel
theorem dX9_init_53 : decode cX9_init 53 = .ok (.bipush 12, 2) := by decide +kernel
theorem dX9_init_55 : decode cX9_init 55 = .ok (.newarray .int, 2) := by decide +kernel
theorem dX9_init_57 : decode cX9_init 57 = .ok (.putfield 29, 3) := by decide +kernel
theorem dX9_init_60 : decode cX9_init 60 = .ok (.aload_n 0, 1) := by decide +kernel
theorem dX9_init_61 : decode cX9_init 61 = .ok (.bipush 12, 2) := by decide +kernel
theorem dX9_init_63 : decode cX9_init 63 = .ok (.newarray .int, 2) := by decide +kernel
theorem dX9_init_65 : decode cX9_init 65 = .ok (.putfield 32, 3) := by decide +kernel
theorem dX9_init_68 : decode cX9_init 68 = .ok (.aload_n 0, 1) := by decide +kernel
theorem dX9_init_69 : decode cX9_init 69 = .ok (.bipush 12, 2) := by decide +kernel
theorem dX9_init_71 : decode cX9_init 71 = .ok (.newarray .int, 2) := by decide +kernel
theorem dX9_init_73 : decode cX9_init 73 = .ok (.putfield 35, 3) := by decide +kernel
theorem dX9_init_76 : decode cX9_init 76 = .ok (.aload_n 0, 1) := by decide +kernel
theorem dX9_init_77 : decode cX9_init 77 = .ok (.bipush 12, 2) := by decide +kernel
theorem dX9_init_79 : decode cX9_init 79 = .ok (.newarray .int, 2) := by decide +kernel
theorem dX9_init_81 : decode cX9_init 81 = .ok (.putfield 38, 3) := by decide +kernel
theorem dX9_init_84 : decode cX9_init 84 = .ok (.aload_n 0, 1) := by decide +kernel
theorem dX9_init_85 : decode cX9_init 85 = .ok (.bipush 12, 2) := by decide +kernel
theorem dX9_init_87 : decode cX9_init 87 = .ok (.newarray .int, 2) := by decide +kernel
theorem dX9_init_89 : decode cX9_init 89 = .ok (.putfield 41, 3) := by decide +kernel
theorem dX9_init_92 : decode cX9_init 92 = .ok (.aload_n 0, 1) := by decide +kernel
theorem dX9_init_93 : decode cX9_init 93 = .ok (.bipush 12, 2) := by decide +kernel
theorem dX9_init_95 : decode cX9_init 95 = .ok (.newarray .int, 2) := by decide +kernel
theorem dX9_init_97 : decode cX9_init 97 = .ok (.putfield 44, 3) := by decide +kernel
theorem dX9_init_100 : decode cX9_init 100 = .ok (.aload_n 0, 1) := by decide +kernel
theorem dX9_init_101 : decode cX9_init 101 = .ok (.bipush 8, 2) := by decide +kernel
theorem dX9_init_103 : decode cX9_init 103 = .ok (.newarray .boolean, 2) := by decide +kernel
theorem dX9_init_105 : decode cX9_init 105 = .ok (.putfield 47, 3) := by decide +kernel
theorem dX9_init_108 : decode cX9_init 108 = .ok (.aload_n 0, 1) := by decide +kernel
theorem dX9_init_109 : decode cX9_init 109 = .ok (.bipush 8, 2) := by decide +kernel
theorem dX9_init_111 : decode cX9_init 111 = .ok (.newarray .int, 2) := by decide +kernel
theorem dX9_init_113 : decode cX9_init 113 = .ok (.putfield 50, 3) := by decide +kernel
theorem dX9_init_116 : decode cX9_init 116 = .ok (.aload_n 0, 1) := by decide +kernel
theorem dX9_init_117 : decode cX9_init 117 = .ok (.bipush 7, 2) := by decide +kernel
theorem dX9_init_119 : decode cX9_init 119 = .ok (.newarray .int, 2) := by decide +kernel
theorem dX9_init_121 : decode cX9_init 121 = .ok (.putfield 53, 3) := by decide +kernel
theorem dX9_init_124 : decode cX9_init 124 = .ok (.aload_n 0, 1) := by decide +kernel
theorem dX9_init_125 : decode cX9_init 125 = .ok (.bipush 7, 2) := by decide +kernel
theorem dX9_init_127 : decode cX9_init 127 = .ok (.newarray .int, 2) := by decide +kernel
theorem dX9_init_129 : decode cX9_init 129 = .ok (.putfield 56, 3) := by decide +kernel
theorem dX9_init_132 : decode cX9_init 132 = .ok (.aload_n 0, 1) := by decide +kernel
theorem dX9_init_133 : decode cX9_init 133 = .ok (.bipush 7, 2) := by decide +kernel
theorem dX9_init_135 : decode cX9_init 135 = .ok (.newarray .int, 2) := by decide +kernel
theorem dX9_init_137 : decode cX9_init 137 = .ok (.putfield 59, 3) := by decide +kernel
theorem dX9_init_140 : decode cX9_init 140 = .ok (.aload_n 0, 1) := by decide +kernel
theorem dX9_init_141 : decode cX9_init 141 = .ok (.bipush 7, 2) := by decide +kernel
theorem dX9_init_143 : decode cX9_init 143 = .ok (.newarray .int, 2) := by decide +kernel
theorem dX9_init_145 : decode cX9_init 145 = .ok (.putfield 62, 3) := by decide +kernel
theorem dX9_init_148 : decode cX9_init 148 = .ok (.aload_n 0, 1) := by decide +kernel
theorem dX9_init_149 : decode cX9_init 149 = .ok (.bipush 7, 2) := by decide +kernel
theorem dX9_init_151 : decode cX9_init 151 = .ok (.newarray .int, 2) := by decide +kernel
theorem dX9_init_153 : decode cX9_init 153 = .ok (.putfield 65, 3) := by decide +kernel
theorem dX9_init_156 : decode cX9_init 156 = .ok (.aload_n 0, 1) := by decide +kernel
theorem dX9_init_157 : decode cX9_init 157 = .ok (.bipush 7, 2) := by decide +kernel
theorem dX9_init_159 : decode cX9_init 159 = .ok (.newarray .int, 2) := by decide +kernel
theorem dX9_init_161 : decode cX9_init 161 = .ok (.putfield 68, 3) := by decide +kernel
theorem dX9_init_164 : decode cX9_init 164 = .ok (.aload_n 0, 1) := by decide +kernel
theorem dX9_init_165 : decode cX9_init 165 = .ok (.bipush 7, 2) := by decide +kernel
theorem dX9_init_167 : decode cX9_init 167 = .ok (.newarray .int, 2) := by decide +kernel
theorem dX9_init_169 : decode cX9_init 169 = .ok (.putfield 71, 3) := by decide +kernel
theorem dX9_init_172 : decode cX9_init 172 = .ok (.aload_n 0, 1) := by decide +kernel
theorem dX9_init_173 : decode cX9_init 173 = .ok (.bipush 7, 2) := by decide +kernel
theorem dX9_init_175 : decode cX9_init 175 = .ok (.newarray .int, 2) := by decide +kernel
theorem dX9_init_177 : decode cX9_init 177 = .ok (.putfield 74, 3) := by decide +kernel
theorem dX9_init_180 : decode cX9_init 180 = .ok (.aload_n 0, 1) := by decide +kernel
theorem dX9_init_181 : decode cX9_init 181 = .ok (.sipush 301, 3) := by decide +kernel
theorem dX9_init_184 : decode cX9_init 184 = .ok (.newarray .int, 2) := by decide +kernel
theorem dX9_init_186 : decode cX9_init 186 = .ok (.putfield 77, 3) := by decide +kernel
theorem dX9_init_189 : decode cX9_init 189 = .ok (.aload_n 0, 1) := by decide +kernel
theorem dX9_init_190 : decode cX9_init 190 = .ok (.sipush 301, 3) := by decide +kernel
theorem dX9_init_193 : decode cX9_init 193 = .ok (.newarray .int, 2) := by decide +kernel
theorem dX9_init_195 : decode cX9_init 195 = .ok (.putfield 80, 3) := by decide +kernel
theorem dX9_init_198 : decode cX9_init 198 = .ok (.aload_n 0, 1) := by decide +kernel
theorem dX9_init_199 : decode cX9_init 199 = .ok (.bipush 60, 2) := by decide +kernel
theorem dX9_init_201 : decode cX9_init 201 = .ok (.newarray .int, 2) := by decide +kernel
theorem dX9_init_203 : decode cX9_init 203 = .ok (.putfield 83, 3) := by decide +kernel
theorem dX9_init_206 : decode cX9_init 206 = .ok (.aload_n 0, 1) := by decide +kernel
theorem dX9_init_207 : decode cX9_init 207 = .ok (.bipush 10, 2) := by decide +kernel
theorem dX9_init_209 : decode cX9_init 209 = .ok (.newarray .int, 2) := by decide +kernel
theorem dX9_init_211 : decode cX9_init 211 = .ok (.putfield 86, 3) := by decide +kernel
theorem dX9_init_214 : decode cX9_init 214 = .ok (.aload_n 0, 1) := by decide +kernel
theorem dX9_init_215 : decode cX9_init 215 = .ok (.sipush 896, 3) := by decide +kernel
theorem dX9_init_218 : decode cX9_init 218 = .ok (.newarray .int, 2) := by decide +kernel
theorem dX9_init_220 : decode cX9_init 220 = .ok (.putfield 89, 3) := by decide +kernel
theorem dX9_init_223 : decode cX9_init 223 = .ok (.aload_n 0, 1) := by decide +kernel
theorem dX9_init_224 : decode cX9_init 224 = .ok (.bipush 7, 2) := by decide +kernel
theorem dX9_init_226 : decode cX9_init 226 = .ok (.newarray .int, 2) := by decide +kernel
theorem dX9_init_228 : decode cX9_init 228 = .ok (.putfield 92, 3) := by decide +kernel
theorem dX9_init_231 : decode cX9_init 231 = .ok (.aload_n 0, 1) := by decide +kernel
theorem dX9_init_232 : decode cX9_init 232 = .ok (.bipush 84, 2) := by decide +kernel
theorem dX9_init_234 : decode cX9_init 234 = .ok (.newarray .int, 2) := by decide +kernel
theorem dX9_init_236 : decode cX9_init 236 = .ok (.putfield 95, 3) := by decide +kernel
theorem dX9_init_239 : decode cX9_init 239 = .ok (.aload_n 0, 1) := by decide +kernel
theorem dX9_init_240 : decode cX9_init 240 = .ok (.bipush 84, 2) := by decide +kernel
theorem dX9_init_242 : decode cX9_init 242 = .ok (.newarray .int, 2) := by decide +kernel
theorem dX9_init_244 : decode cX9_init 244 = .ok (.putfield 98, 3) := by decide +kernel
theorem dX9_init_247 : decode cX9_init 247 = .ok (.iconst 0, 1) := by decide +kernel
theorem dX9_init_248 : decode cX9_init 248 = .ok (.istore_n 1, 1) := by decide +kernel
theorem dX9_init_249 : decode cX9_init 249 = .ok (.iload_n 1, 1) := by decide +kernel
theorem dX9_init_250 : decode cX9_init 250 = .ok (.bipush 8, 2) := by decide +kernel
theorem dX9_init_252 : decode cX9_init 252 = .ok (.if_icmp .ge 16, 3) := by decide +kernel
theorem dX9_init_255 : decode cX9_init 255 = .ok (.aload_n 0, 1) := by decide +kernel
theorem dX9_init_256 : decode cX9_init 256 = .ok (.getfield 50, 3) := by decide +kernel
theorem dX9_init_259 : decode cX9_init 259 = .ok (.iload_n 1, 1) := by decide +kernel
theorem dX9_init_260 : decode cX9_init 260 = .ok (.iconst (-1), 1) := by decide +kernel
theorem dX9_init_261 : decode cX9_init 261 = .ok (.iastore, 1) := by decide +kernel
theorem dX9_init_262 : decode cX9_init 262 = .ok (.iinc 1 1, 3) := by decide +kernel
theorem dX9_init_265 : decode cX9_init 265 = .ok (.goto (-16), 3) := by decide +kernel
theorem dX9_init_268 : decode cX9_init 268 = .ok (.return_, 1) := by decide +kernel
theorem dX9_in_0 : decode cX9_in 0 = .ok (.iload_n 0, 1) := by decide +kernel
theorem dX9_in_1 : decode cX9_in 1 = .ok (.iload_n 1, 1) := by decide +kernel
theorem dX9_in_2 : decode cX9_in 2 = .ok (.if_icmp .lt 12, 3) := by decide +kernel
theorem dX9_in_5 : decode cX9_in 5 = .ok (.iload_n 0, 1) := by decide +kernel
theorem dX9_in_6 : decode cX9_in 6 = .ok (.iload_n 2, 1) := by decide +kernel
theorem dX9_in_7 : decode cX9_in 7 = .ok (.if_icmp .gt 7, 3) := by decide +kernel
theorem dX9_in_10 : decode cX9_in 10 = .ok (.iconst 1, 1) := by decide +kernel
theorem dX9_in_11 : decode cX9_in 11 = .ok (.goto 4, 3) := by decide +kernel
theorem dX9_in_14 : decode cX9_in 14 = .ok (.iconst 0, 1) := by decide +kernel
theorem dX9_in_15 : decode cX9_in 15 = .ok (.ireturn, 1) := by decide +kernel
theorem dX9_has_0 : decode cX9_has 0 = .ok (.iload_n 0, 1) := by decide +kernel
theorem dX9_has_1 : decode cX9_has 1 = .ok (.iload_n 1, 1) := by decide +kernel
theorem dX9_has_2 : decode cX9_has 2 = .ok (.ishr, 1) := by decide +kernel
theorem dX9_has_3 : decode cX9_has 3 = .ok (.iconst 1, 1) := by decide +kernel
theorem dX9_has_4 : decode cX9_has 4 = .ok (.iand, 1) := by decide +kernel
theorem dX9_has_5 : decode cX9_has 5 = .ok (.iconst 1, 1) := by decide +kernel
theorem dX9_has_6 : decode cX9_has 6 = .ok (.if_icmp .ne 7, 3) := by decide +kernel
theorem dX9_has_9 : decode cX9_has 9 = .ok (.iconst 1, 1) := by decide +kernel
theorem dX9_has_10 : decode cX9_has 10 = .ok (.goto 4, 3) := by decide +kernel
theorem dX9_has_13 : decode cX9_has 13 = .ok (.iconst 0, 1) := by decide +kernel
theorem dX9_has_14 : decode cX9_has 14 = .ok (.ireturn, 1) := by decide +kernel
theorem dX9_ones_0 : decode cX9_ones 0 = .ok (.iconst 0, 1) := by decide +kernel
theorem dX9_ones_1 : decode cX9_ones 1 = .ok (.istore_n 1, 1) := by decide +kernel
theorem dX9_ones_2 : decode cX9_ones 2 = .ok (.iconst 0, 1) := by decide +kernel
theorem dX9_ones_3 : decode cX9_ones 3 = .ok (.istore_n 2, 1) := by decide +kernel
theorem dX9_ones_4 : decode cX9_ones 4 = .ok (.iload_n 2, 1) := by decide +kernel
theorem dX9_ones_5 : decode cX9_ones 5 = .ok (.bipush 12, 2) := by decide +kernel
theorem dX9_ones_7 : decode cX9_ones 7 = .ok (.if_icmp .ge 17, 3) := by decide +kernel
theorem dX9_ones_10 : decode cX9_ones 10 = .ok (.iload_n 1, 1) := by decide +kernel
theorem dX9_ones_11 : decode cX9_ones 11 = .ok (.iload_n 0, 1) := by decide +kernel
theorem dX9_ones_12 : decode cX9_ones 12 = .ok (.iload_n 2, 1) := by decide +kernel
theorem dX9_ones_13 : decode cX9_ones 13 = .ok (.ishr, 1) := by decide +kernel
theorem dX9_ones_14 : decode cX9_ones 14 = .ok (.iconst 1, 1) := by decide +kernel
theorem dX9_ones_15 : decode cX9_ones 15 = .ok (.iand, 1) := by decide +kernel
theorem dX9_ones_16 : decode cX9_ones 16 = .ok (.iadd, 1) := by decide +kernel
theorem dX9_ones_17 : decode cX9_ones 17 = .ok (.istore_n 1, 1) := by decide +kernel
theorem dX9_ones_18 : decode cX9_ones 18 = .ok (.iinc 2 1, 3) := by decide +kernel
theorem dX9_ones_21 : decode cX9_ones 21 = .ok (.goto (-17), 3) := by decide +kernel
theorem dX9_ones_24 : decode cX9_ones 24 = .ok (.iload_n 1, 1) := by decide +kernel
theorem dX9_ones_25 : decode cX9_ones 25 = .ok (.ireturn, 1) := by decide +kernel
theorem dX9_isPipe_0 : decode cX9_isPipe 0 = .ok (.iload_n 1, 1) := by decide +kernel
theorem dX9_isPipe_1 : decode cX9_isPipe 1 = .ok (.iconst 0, 1) := by decide +kernel
theorem dX9_isPipe_2 : decode cX9_isPipe 2 = .ok (.aload_n 0, 1) := by decide +kernel
theorem dX9_isPipe_3 : decode cX9_isPipe 3 = .ok (.getfield 101, 3) := by decide +kernel
theorem dX9_isPipe_6 : decode cX9_isPipe 6 = .ok (.iconst 1, 1) := by decide +kernel
theorem dX9_isPipe_7 : decode cX9_isPipe 7 = .ok (.isub, 1) := by decide +kernel
theorem dX9_isPipe_8 : decode cX9_isPipe 8 = .ok (.invokestatic 105, 3) := by decide +kernel
theorem dX9_isPipe_11 : decode cX9_isPipe 11 = .ok (.ireturn, 1) := by decide +kernel
theorem dX9_isPlace_0 : decode cX9_isPlace 0 = .ok (.iload_n 0, 1) := by decide +kernel
theorem dX9_isPlace_1 : decode cX9_isPlace 1 = .ok (.iconst 0, 1) := by decide +kernel
theorem dX9_isPlace_2 : decode cX9_isPlace 2 = .ok (.bipush 9, 2) := by decide +kernel
theorem dX9_isPlace_4 : decode cX9_isPlace 4 = .ok (.invokestatic 105, 3) := by decide +kernel
theorem dX9_isPlace_7 : decode cX9_isPlace 7 = .ok (.ireturn, 1) := by decide +kernel
theorem dX9_isFitting_0 : decode cX9_isFitting 0 = .ok (.aload_n 0, 1) := by decide +kernel
theorem dX9_isFitting_1 : decode cX9_isFitting 1 = .ok (.iload_n 1, 1) := by decide +kernel
theorem dX9_isFitting_2 : decode cX9_isFitting 2 = .ok (.invokevirtual 109, 3) := by decide +kernel
theorem dX9_isFitting_5 : decode cX9_isFitting 5 = .ok (.ifCond .eq 17, 3) := by decide +kernel
theorem dX9_isFitting_8 : decode cX9_isFitting 8 = .ok (.aload_n 0, 1) := by decide +kernel
theorem dX9_isFitting_9 : decode cX9_isFitting 9 = .ok (.getfield 16, 3) := by decide +kernel
theorem dX9_isFitting_12 : decode cX9_isFitting 12 = .ok (.iload_n 1, 1) := by decide +kernel
theorem dX9_isFitting_13 : decode cX9_isFitting 13 = .ok (.iaload, 1) := by decide +kernel
theorem dX9_isFitting_14 : decode cX9_isFitting 14 = .ok (.iconst 2, 1) := by decide +kernel
theorem dX9_isFitting_15 : decode cX9_isFitting 15 = .ok (.if_icmp .ge 7, 3) := by decide +kernel
theorem dX9_isFitting_18 : decode cX9_isFitting 18 = .ok (.iconst 1, 1) := by decide +kernel
theorem dX9_isFitting_19 : decode cX9_isFitting 19 = .ok (.goto 4, 3) := by decide +kernel
theorem dX9_isFitting_22 : decode cX9_isFitting 22 = .ok (.iconst 0, 1) := by decide +kernel
theorem dX9_isFitting_23 : decode cX9_isFitting 23 = .ok (.ireturn, 1) := by decide +kernel
theorem dX9_isPermit_0 : decode cX9_isPermit 0 = .ok (.iload_n 1, 1) := by decide +kernel
theorem dX9_isPermit_1 : decode cX9_isPermit 1 = .ok (.iconst 0, 1) := by decide +kernel
theorem dX9_isPermit_2 : decode cX9_isPermit 2 = .ok (.aload_n 0, 1) := by decide +kernel
theorem dX9_isPermit_3 : decode cX9_isPermit 3 = .ok (.getfield 113, 3) := by decide +kernel
theorem dX9_isPermit_6 : decode cX9_isPermit 6 = .ok (.iconst 1, 1) := by decide +kernel
theorem dX9_isPermit_7 : decode cX9_isPermit 7 = .ok (.isub, 1) := by decide +kernel
theorem dX9_isPermit_8 : decode cX9_isPermit 8 = .ok (.invokestatic 105, 3) := by decide +kernel
theorem dX9_isPermit_11 : decode cX9_isPermit 11 = .ok (.ireturn, 1) := by decide +kernel
theorem dX9_isMan_0 : decode cX9_isMan 0 = .ok (.iload_n 0, 1) := by decide +kernel
theorem dX9_isMan_1 : decode cX9_isMan 1 = .ok (.iconst 0, 1) := by decide +kernel
theorem dX9_isMan_2 : decode cX9_isMan 2 = .ok (.bipush 7, 2) := by decide +kernel
theorem dX9_isMan_4 : decode cX9_isMan 4 = .ok (.invokestatic 105, 3) := by decide +kernel
theorem dX9_isMan_7 : decode cX9_isMan 7 = .ok (.ireturn, 1) := by decide +kernel
theorem dX9_pipe_0 : decode cX9_pipe 0 = .ok (.iload_n 1, 1) := by decide +kernel
theorem dX9_pipe_1 : decode cX9_pipe 1 = .ok (.invokestatic 116, 3) := by decide +kernel
theorem dX9_pipe_4 : decode cX9_pipe 4 = .ok (.ifCond .eq 24, 3) := by decide +kernel
theorem dX9_pipe_7 : decode cX9_pipe 7 = .ok (.iload_n 2, 1) := by decide +kernel
theorem dX9_pipe_8 : decode cX9_pipe 8 = .ok (.invokestatic 116, 3) := by decide +kernel
theorem dX9_pipe_11 : decode cX9_pipe 11 = .ok (.ifCond .eq 17, 3) := by decide +kernel
theorem dX9_pipe_14 : decode cX9_pipe 14 = .ok (.iload_n 1, 1) := by decide +kernel
theorem dX9_pipe_15 : decode cX9_pipe 15 = .ok (.iload_n 2, 1) := by decide +kernel
theorem dX9_pipe_16 : decode cX9_pipe 16 = .ok (.if_icmp .eq 12, 3) := by decide +kernel
theorem dX9_pipe_19 : decode cX9_pipe 19 = .ok (.iload_n 3, 1) := by decide +kernel
theorem dX9_pipe_20 : decode cX9_pipe 20 = .ok (.iconst 0, 1) := by decide +kernel
theorem dX9_pipe_21 : decode cX9_pipe 21 = .ok (.iconst 2, 1) := by decide +kernel
theorem dX9_pipe_22 : decode cX9_pipe 22 = .ok (.invokestatic 105, 3) := by decide +kernel
theorem dX9_pipe_25 : decode cX9_pipe 25 = .ok (.ifCond .ne 5, 3) := by decide +kernel
theorem dX9_pipe_28 : decode cX9_pipe 28 = .ok (.iconst (-1), 1) := by decide +kernel
theorem dX9_pipe_29 : decode cX9_pipe 29 = .ok (.ireturn, 1) := by decide +kernel
theorem dX9_pipe_30 : decode cX9_pipe 30 = .ok (.aload_n 0, 1) := by decide +kernel
theorem dX9_pipe_31 : decode cX9_pipe 31 = .ok (.getfield 101, 3) := by decide +kernel
theorem dX9_pipe_34 : decode cX9_pipe 34 = .ok (.bipush 12, 2) := by decide +kernel
theorem dX9_pipe_36 : decode cX9_pipe 36 = .ok (.if_icmp .ne 6, 3) := by decide +kernel
theorem dX9_pipe_39 : decode cX9_pipe 39 = .ok (.bipush (-2), 2) := by decide +kernel
theorem dX9_pipe_41 : decode cX9_pipe 41 = .ok (.ireturn, 1) := by decide +kernel
theorem dX9_pipe_42 : decode cX9_pipe 42 = .ok (.aload_n 0, 1) := by decide +kernel
theorem dX9_pipe_43 : decode cX9_pipe 43 = .ok (.getfield 7, 3) := by decide +kernel
theorem dX9_pipe_46 : decode cX9_pipe 46 = .ok (.aload_n 0, 1) := by decide +kernel
theorem dX9_pipe_47 : decode cX9_pipe 47 = .ok (.getfield 101, 3) := by decide +kernel
theorem dX9_pipe_50 : decode cX9_pipe 50 = .ok (.iload_n 1, 1) := by decide +kernel
theorem dX9_pipe_51 : decode cX9_pipe 51 = .ok (.iastore, 1) := by decide +kernel
theorem dX9_pipe_52 : decode cX9_pipe 52 = .ok (.aload_n 0, 1) := by decide +kernel
theorem dX9_pipe_53 : decode cX9_pipe 53 = .ok (.getfield 13, 3) := by decide +kernel
theorem dX9_pipe_56 : decode cX9_pipe 56 = .ok (.aload_n 0, 1) := by decide +kernel
theorem dX9_pipe_57 : decode cX9_pipe 57 = .ok (.getfield 101, 3) := by decide +kernel
theorem dX9_pipe_60 : decode cX9_pipe 60 = .ok (.iload_n 2, 1) := by decide +kernel
theorem dX9_pipe_61 : decode cX9_pipe 61 = .ok (.iastore, 1) := by decide +kernel
theorem dX9_pipe_62 : decode cX9_pipe 62 = .ok (.aload_n 0, 1) := by decide +kernel
theorem dX9_pipe_63 : decode cX9_pipe 63 = .ok (.getfield 16, 3) := by decide +kernel
theorem dX9_pipe_66 : decode cX9_pipe 66 = .ok (.aload_n 0, 1) := by decide +kernel
theorem dX9_pipe_67 : decode cX9_pipe 67 = .ok (.getfield 101, 3) := by decide +kernel
theorem dX9_pipe_70 : decode cX9_pipe 70 = .ok (.iload_n 3, 1) := by decide +kernel
theorem dX9_pipe_71 : decode cX9_pipe 71 = .ok (.iastore, 1) := by decide +kernel
theorem dX9_pipe_72 : decode cX9_pipe 72 = .ok (.aload_n 0, 1) := by decide +kernel
theorem dX9_pipe_73 : decode cX9_pipe 73 = .ok (.getfield 19, 3) := by decide +kernel
theorem dX9_pipe_76 : decode cX9_pipe 76 = .ok (.aload_n 0, 1) := by decide +kernel
theorem dX9_pipe_77 : decode cX9_pipe 77 = .ok (.getfield 101, 3) := by decide +kernel
theorem dX9_pipe_80 : decode cX9_pipe 80 = .ok (.aload_n 0, 1) := by decide +kernel
theorem dX9_pipe_81 : decode cX9_pipe 81 = .ok (.getfield 119, 3) := by decide +kernel
theorem dX9_pipe_84 : decode cX9_pipe 84 = .ok (.iastore, 1) := by decide +kernel
theorem dX9_pipe_85 : decode cX9_pipe 85 = .ok (.aload_n 0, 1) := by decide +kernel
theorem dX9_pipe_86 : decode cX9_pipe 86 = .ok (.getfield 22, 3) := by decide +kernel
theorem dX9_pipe_89 : decode cX9_pipe 89 = .ok (.aload_n 0, 1) := by decide +kernel
theorem dX9_pipe_90 : decode cX9_pipe 90 = .ok (.getfield 101, 3) := by decide +kernel
theorem dX9_pipe_93 : decode cX9_pipe 93 = .ok (.iconst 0, 1) := by decide +kernel
theorem dX9_pipe_94 : decode cX9_pipe 94 = .ok (.bastore, 1) := by decide +kernel
theorem dX9_pipe_95 : decode cX9_pipe 95 = .ok (.aload_n 0, 1) := by decide +kernel
theorem dX9_pipe_96 : decode cX9_pipe 96 = .ok (.dup, 1) := by decide +kernel
theorem dX9_pipe_97 : decode cX9_pipe 97 = .ok (.getfield 101, 3) := by decide +kernel
theorem dX9_pipe_100 : decode cX9_pipe 100 = .ok (.iconst 1, 1) := by decide +kernel
theorem dX9_pipe_101 : decode cX9_pipe 101 = .ok (.iadd, 1) := by decide +kernel
theorem dX9_pipe_102 : decode cX9_pipe 102 = .ok (.putfield 101, 3) := by decide +kernel
theorem dX9_pipe_105 : decode cX9_pipe 105 = .ok (.aload_n 0, 1) := by decide +kernel
theorem dX9_pipe_106 : decode cX9_pipe 106 = .ok (.getfield 101, 3) := by decide +kernel
theorem dX9_pipe_109 : decode cX9_pipe 109 = .ok (.iconst 1, 1) := by decide +kernel
theorem dX9_pipe_110 : decode cX9_pipe 110 = .ok (.isub, 1) := by decide +kernel
theorem dX9_pipe_111 : decode cX9_pipe 111 = .ok (.ireturn, 1) := by decide +kernel
theorem dX9_hasLocks_0 : decode cX9_hasLocks 0 = .ok (.aload_n 0, 1) := by decide +kernel
theorem dX9_hasLocks_1 : decode cX9_hasLocks 1 = .ok (.getfield 62, 3) := by decide +kernel
theorem dX9_hasLocks_4 : decode cX9_hasLocks 4 = .ok (.iload_n 1, 1) := by decide +kernel
theorem dX9_hasLocks_5 : decode cX9_hasLocks 5 = .ok (.iaload, 1) := by decide +kernel
theorem dX9_hasLocks_6 : decode cX9_hasLocks 6 = .ok (.iconst 1, 1) := by decide +kernel
theorem dX9_hasLocks_7 : decode cX9_hasLocks 7 = .ok (.iconst 4, 1) := by decide +kernel
theorem dX9_hasLocks_8 : decode cX9_hasLocks 8 = .ok (.invokestatic 105, 3) := by decide +kernel
theorem dX9_hasLocks_11 : decode cX9_hasLocks 11 = .ok (.ireturn, 1) := by decide +kernel
theorem dX9_locks_0 : decode cX9_locks 0 = .ok (.iconst 0, 1) := by decide +kernel
theorem dX9_locks_1 : decode cX9_locks 1 = .ok (.istore_n 2, 1) := by decide +kernel
theorem dX9_locks_2 : decode cX9_locks 2 = .ok (.iconst 0, 1) := by decide +kernel
theorem dX9_locks_3 : decode cX9_locks 3 = .ok (.istore_n 3, 1) := by decide +kernel
theorem dX9_locks_4 : decode cX9_locks 4 = .ok (.iload_n 3, 1) := by decide +kernel
theorem dX9_locks_5 : decode cX9_locks 5 = .ok (.aload_n 0, 1) := by decide +kernel
theorem dX9_locks_6 : decode cX9_locks 6 = .ok (.getfield 113, 3) := by decide +kernel
theorem dX9_locks_9 : decode cX9_locks 9 = .ok (.if_icmp .ge 38, 3) := by decide +kernel
theorem dX9_locks_12 : decode cX9_locks 12 = .ok (.iload_n 2, 1) := by decide +kernel
theorem dX9_locks_13 : decode cX9_locks 13 = .ok (.aload_n 0, 1) := by decide +kernel
theorem dX9_locks_14 : decode cX9_locks 14 = .ok (.iload_n 3, 1) := by decide +kernel
theorem dX9_locks_15 : decode cX9_locks 15 = .ok (.invokevirtual 122, 3) := by decide +kernel
theorem dX9_locks_18 : decode cX9_locks 18 = .ok (.ifCond .eq 20, 3) := by decide +kernel
theorem dX9_locks_21 : decode cX9_locks 21 = .ok (.aload_n 0, 1) := by decide +kernel
theorem dX9_locks_22 : decode cX9_locks 22 = .ok (.getfield 59, 3) := by decide +kernel
theorem dX9_locks_25 : decode cX9_locks 25 = .ok (.iload_n 3, 1) := by decide +kernel
theorem dX9_locks_26 : decode cX9_locks 26 = .ok (.iaload, 1) := by decide +kernel
theorem dX9_locks_27 : decode cX9_locks 27 = .ok (.iload_n 1, 1) := by decide +kernel
theorem dX9_locks_28 : decode cX9_locks 28 = .ok (.invokestatic 125, 3) := by decide +kernel
theorem dX9_locks_31 : decode cX9_locks 31 = .ok (.ifCond .eq 7, 3) := by decide +kernel
theorem dX9_locks_34 : decode cX9_locks 34 = .ok (.iconst 1, 1) := by decide +kernel
theorem dX9_locks_35 : decode cX9_locks 35 = .ok (.goto 4, 3) := by decide +kernel
theorem dX9_locks_38 : decode cX9_locks 38 = .ok (.iconst 0, 1) := by decide +kernel
theorem dX9_locks_39 : decode cX9_locks 39 = .ok (.iadd, 1) := by decide +kernel
theorem dX9_locks_40 : decode cX9_locks 40 = .ok (.istore_n 2, 1) := by decide +kernel
theorem dX9_locks_41 : decode cX9_locks 41 = .ok (.iinc 3 1, 3) := by decide +kernel
theorem dX9_locks_44 : decode cX9_locks 44 = .ok (.goto (-40), 3) := by decide +kernel
theorem dX9_locks_47 : decode cX9_locks 47 = .ok (.iload_n 2, 1) := by decide +kernel
theorem dX9_locks_48 : decode cX9_locks 48 = .ok (.ireturn, 1) := by decide +kernel
theorem dX9_closedNow_0 : decode cX9_closedNow 0 = .ok (.iconst 0, 1) := by decide +kernel
theorem dX9_closedNow_1 : decode cX9_closedNow 1 = .ok (.istore_n 1, 1) := by decide +kernel
theorem dX9_closedNow_2 : decode cX9_closedNow 2 = .ok (.iconst 0, 1) := by decide +kernel
theorem dX9_closedNow_3 : decode cX9_closedNow 3 = .ok (.istore_n 2, 1) := by decide +kernel
theorem dX9_closedNow_4 : decode cX9_closedNow 4 = .ok (.iload_n 2, 1) := by decide +kernel
theorem dX9_closedNow_5 : decode cX9_closedNow 5 = .ok (.aload_n 0, 1) := by decide +kernel
theorem dX9_closedNow_6 : decode cX9_closedNow 6 = .ok (.getfield 101, 3) := by decide +kernel
theorem dX9_closedNow_9 : decode cX9_closedNow 9 = .ok (.if_icmp .ge 36, 3) := by decide +kernel
theorem dX9_closedNow_12 : decode cX9_closedNow 12 = .ok (.iload_n 1, 1) := by decide +kernel
theorem dX9_closedNow_13 : decode cX9_closedNow 13 = .ok (.aload_n 0, 1) := by decide +kernel
theorem dX9_closedNow_14 : decode cX9_closedNow 14 = .ok (.getfield 22, 3) := by decide +kernel
theorem dX9_closedNow_17 : decode cX9_closedNow 17 = .ok (.iload_n 2, 1) := by decide +kernel
theorem dX9_closedNow_18 : decode cX9_closedNow 18 = .ok (.baload, 1) := by decide +kernel
theorem dX9_closedNow_19 : decode cX9_closedNow 19 = .ok (.ifCond .ne 11, 3) := by decide +kernel
theorem dX9_closedNow_22 : decode cX9_closedNow 22 = .ok (.aload_n 0, 1) := by decide +kernel
theorem dX9_closedNow_23 : decode cX9_closedNow 23 = .ok (.iload_n 2, 1) := by decide +kernel
theorem dX9_closedNow_24 : decode cX9_closedNow 24 = .ok (.invokevirtual 129, 3) := by decide +kernel
theorem dX9_closedNow_27 : decode cX9_closedNow 27 = .ok (.ifCond .le 9, 3) := by decide +kernel
theorem dX9_closedNow_30 : decode cX9_closedNow 30 = .ok (.iconst 1, 1) := by decide +kernel
theorem dX9_closedNow_31 : decode cX9_closedNow 31 = .ok (.iload_n 2, 1) := by decide +kernel
theorem dX9_closedNow_32 : decode cX9_closedNow 32 = .ok (.ishl, 1) := by decide +kernel
theorem dX9_closedNow_33 : decode cX9_closedNow 33 = .ok (.goto 4, 3) := by decide +kernel
theorem dX9_closedNow_36 : decode cX9_closedNow 36 = .ok (.iconst 0, 1) := by decide +kernel
theorem dX9_closedNow_37 : decode cX9_closedNow 37 = .ok (.ior, 1) := by decide +kernel
theorem dX9_closedNow_38 : decode cX9_closedNow 38 = .ok (.istore_n 1, 1) := by decide +kernel
theorem dX9_closedNow_39 : decode cX9_closedNow 39 = .ok (.iinc 2 1, 3) := by decide +kernel
theorem dX9_closedNow_42 : decode cX9_closedNow 42 = .ok (.goto (-38), 3) := by decide +kernel
theorem dX9_closedNow_45 : decode cX9_closedNow 45 = .ok (.iload_n 1, 1) := by decide +kernel
theorem dX9_closedNow_46 : decode cX9_closedNow 46 = .ok (.ireturn, 1) := by decide +kernel
theorem dX9_of_0 : decode cX9_of 0 = .ok (.aload_n 0, 1) := by decide +kernel
theorem dX9_of_1 : decode cX9_of 1 = .ok (.iload_n 1, 1) := by decide +kernel
theorem dX9_of_2 : decode cX9_of 2 = .ok (.invokevirtual 109, 3) := by decide +kernel
theorem dX9_of_5 : decode cX9_of 5 = .ok (.ifCond .eq 12, 3) := by decide +kernel
theorem dX9_of_8 : decode cX9_of 8 = .ok (.iload_n 2, 1) := by decide +kernel
theorem dX9_of_9 : decode cX9_of 9 = .ok (.iconst 0, 1) := by decide +kernel
theorem dX9_of_10 : decode cX9_of 10 = .ok (.iconst 5, 1) := by decide +kernel
theorem dX9_of_11 : decode cX9_of 11 = .ok (.invokestatic 105, 3) := by decide +kernel
theorem dX9_of_14 : decode cX9_of 14 = .ok (.ifCond .ne 5, 3) := by decide +kernel
theorem dX9_of_17 : decode cX9_of 17 = .ok (.iconst (-1), 1) := by decide +kernel
theorem dX9_of_18 : decode cX9_of 18 = .ok (.ireturn, 1) := by decide +kernel
theorem dX9_of_19 : decode cX9_of 19 = .ok (.iload_n 2, 1) := by decide +kernel
theorem dX9_of_20 : decode cX9_of 20 = .ok (.tableswitch 73 0 4 #[36, 43, 50, 57, 64], 36) := by decide +kernel
theorem dX9_of_56 : decode cX9_of 56 = .ok (.aload_n 0, 1) := by decide +kernel
theorem dX9_of_57 : decode cX9_of 57 = .ok (.getfield 7, 3) := by decide +kernel
theorem dX9_of_60 : decode cX9_of 60 = .ok (.iload_n 1, 1) := by decide +kernel
theorem dX9_of_61 : decode cX9_of 61 = .ok (.iaload, 1) := by decide +kernel
theorem dX9_of_62 : decode cX9_of 62 = .ok (.ireturn, 1) := by decide +kernel
theorem dX9_of_63 : decode cX9_of 63 = .ok (.aload_n 0, 1) := by decide +kernel
theorem dX9_of_64 : decode cX9_of 64 = .ok (.getfield 13, 3) := by decide +kernel
theorem dX9_of_67 : decode cX9_of 67 = .ok (.iload_n 1, 1) := by decide +kernel
theorem dX9_of_68 : decode cX9_of 68 = .ok (.iaload, 1) := by decide +kernel
theorem dX9_of_69 : decode cX9_of 69 = .ok (.ireturn, 1) := by decide +kernel
theorem dX9_of_70 : decode cX9_of 70 = .ok (.aload_n 0, 1) := by decide +kernel
theorem dX9_of_71 : decode cX9_of 71 = .ok (.getfield 16, 3) := by decide +kernel
theorem dX9_of_74 : decode cX9_of 74 = .ok (.iload_n 1, 1) := by decide +kernel
theorem dX9_of_75 : decode cX9_of 75 = .ok (.iaload, 1) := by decide +kernel
theorem dX9_of_76 : decode cX9_of 76 = .ok (.ireturn, 1) := by decide +kernel
theorem dX9_of_77 : decode cX9_of 77 = .ok (.aload_n 0, 1) := by decide +kernel
theorem dX9_of_78 : decode cX9_of 78 = .ok (.getfield 19, 3) := by decide +kernel
theorem dX9_of_81 : decode cX9_of 81 = .ok (.iload_n 1, 1) := by decide +kernel
theorem dX9_of_82 : decode cX9_of 82 = .ok (.iaload, 1) := by decide +kernel
theorem dX9_of_83 : decode cX9_of 83 = .ok (.ireturn, 1) := by decide +kernel
theorem dX9_of_84 : decode cX9_of 84 = .ok (.aload_n 0, 1) := by decide +kernel
theorem dX9_of_85 : decode cX9_of 85 = .ok (.invokevirtual 133, 3) := by decide +kernel
theorem dX9_of_88 : decode cX9_of 88 = .ok (.iload_n 1, 1) := by decide +kernel
theorem dX9_of_89 : decode cX9_of 89 = .ok (.ishr, 1) := by decide +kernel
theorem dX9_of_90 : decode cX9_of 90 = .ok (.iconst 1, 1) := by decide +kernel
theorem dX9_of_91 : decode cX9_of 91 = .ok (.iand, 1) := by decide +kernel
theorem dX9_of_92 : decode cX9_of 92 = .ok (.ireturn, 1) := by decide +kernel
theorem dX9_of_93 : decode cX9_of 93 = .ok (.aload_n 0, 1) := by decide +kernel
theorem dX9_of_94 : decode cX9_of 94 = .ok (.iload_n 1, 1) := by decide +kernel
theorem dX9_of_95 : decode cX9_of 95 = .ok (.invokevirtual 129, 3) := by decide +kernel
theorem dX9_of_98 : decode cX9_of 98 = .ok (.ireturn, 1) := by decide +kernel
theorem dX9_source_0 : decode cX9_source 0 = .ok (.iload_n 1, 1) := by decide +kernel
theorem dX9_source_1 : decode cX9_source 1 = .ok (.invokestatic 116, 3) := by decide +kernel
theorem dX9_source_4 : decode cX9_source 4 = .ok (.ifCond .eq 12, 3) := by decide +kernel
theorem dX9_source_7 : decode cX9_source 7 = .ok (.iload_n 2, 1) := by decide +kernel
theorem dX9_source_8 : decode cX9_source 8 = .ok (.iconst 0, 1) := by decide +kernel
theorem dX9_source_9 : decode cX9_source 9 = .ok (.iconst 2, 1) := by decide +kernel
theorem dX9_source_10 : decode cX9_source 10 = .ok (.invokestatic 105, 3) := by decide +kernel
theorem dX9_source_13 : decode cX9_source 13 = .ok (.ifCond .ne 5, 3) := by decide +kernel
theorem dX9_source_16 : decode cX9_source 16 = .ok (.iconst (-1), 1) := by decide +kernel
theorem dX9_source_17 : decode cX9_source 17 = .ok (.ireturn, 1) := by decide +kernel
theorem dX9_source_18 : decode cX9_source 18 = .ok (.iconst 3, 1) := by decide +kernel
theorem dX9_source_19 : decode cX9_source 19 = .ok (.iload_n 1, 1) := by decide +kernel
theorem dX9_source_20 : decode cX9_source 20 = .ok (.imul, 1) := by decide +kernel
theorem dX9_source_21 : decode cX9_source 21 = .ok (.iload_n 2, 1) := by decide +kernel
theorem dX9_source_22 : decode cX9_source 22 = .ok (.iadd, 1) := by decide +kernel
theorem dX9_source_23 : decode cX9_source 23 = .ok (.istore 4, 2) := by decide +kernel
theorem dX9_source_25 : decode cX9_source 25 = .ok (.aload_n 0, 1) := by decide +kernel
theorem dX9_source_26 : decode cX9_source 26 = .ok (.getfield 26, 3) := by decide +kernel
theorem dX9_source_29 : decode cX9_source 29 = .ok (.iload 4, 2) := by decide +kernel
theorem dX9_source_31 : decode cX9_source 31 = .ok (.baload, 1) := by decide +kernel
theorem dX9_source_32 : decode cX9_source 32 = .ok (.istore 5, 2) := by decide +kernel
theorem dX9_source_34 : decode cX9_source 34 = .ok (.aload_n 0, 1) := by decide +kernel
theorem dX9_source_35 : decode cX9_source 35 = .ok (.getfield 26, 3) := by decide +kernel
theorem dX9_source_38 : decode cX9_source 38 = .ok (.iload 4, 2) := by decide +kernel
theorem dX9_source_40 : decode cX9_source 40 = .ok (.iload_n 3, 1) := by decide +kernel
theorem dX9_source_41 : decode cX9_source 41 = .ok (.bastore, 1) := by decide +kernel
theorem dX9_source_42 : decode cX9_source 42 = .ok (.iload 5, 2) := by decide +kernel
theorem dX9_source_44 : decode cX9_source 44 = .ok (.iload_n 3, 1) := by decide +kernel
theorem dX9_source_45 : decode cX9_source 45 = .ok (.if_icmp .ne 7, 3) := by decide +kernel
theorem dX9_source_48 : decode cX9_source 48 = .ok (.iconst 0, 1) := by decide +kernel
theorem dX9_source_49 : decode cX9_source 49 = .ok (.goto 4, 3) := by decide +kernel
theorem dX9_source_52 : decode cX9_source 52 = .ok (.iconst 1, 1) := by decide +kernel
theorem dX9_source_53 : decode cX9_source 53 = .ok (.ireturn, 1) := by decide +kernel
theorem dX9_turn_0 : decode cX9_turn 0 = .ok (.aload_n 0, 1) := by decide +kernel
theorem dX9_turn_1 : decode cX9_turn 1 = .ok (.iload_n 1, 1) := by decide +kernel
theorem dX9_turn_2 : decode cX9_turn 2 = .ok (.invokevirtual 137, 3) := by decide +kernel
theorem dX9_turn_5 : decode cX9_turn 5 = .ok (.ifCond .ne 5, 3) := by decide +kernel
theorem dX9_turn_8 : decode cX9_turn 8 = .ok (.iconst (-1), 1) := by decide +kernel
theorem dX9_turn_9 : decode cX9_turn 9 = .ok (.ireturn, 1) := by decide +kernel
theorem dX9_turn_10 : decode cX9_turn 10 = .ok (.iload_n 2, 1) := by decide +kernel
theorem dX9_turn_11 : decode cX9_turn 11 = .ok (.ifCond .ne 14, 3) := by decide +kernel
theorem dX9_turn_14 : decode cX9_turn 14 = .ok (.aload_n 0, 1) := by decide +kernel
theorem dX9_turn_15 : decode cX9_turn 15 = .ok (.iload_n 1, 1) := by decide +kernel
theorem dX9_turn_16 : decode cX9_turn 16 = .ok (.invokevirtual 129, 3) := by decide +kernel
theorem dX9_turn_19 : decode cX9_turn 19 = .ok (.ifCond .le 6, 3) := by decide +kernel
theorem dX9_turn_22 : decode cX9_turn 22 = .ok (.bipush (-5), 2) := by decide +kernel
theorem dX9_turn_24 : decode cX9_turn 24 = .ok (.ireturn, 1) := by decide +kernel
theorem dX9_turn_25 : decode cX9_turn 25 = .ok (.aload_n 0, 1) := by decide +kernel
theorem dX9_turn_26 : decode cX9_turn 26 = .ok (.getfield 22, 3) := by decide +kernel
theorem dX9_turn_29 : decode cX9_turn 29 = .ok (.iload_n 1, 1) := by decide +kernel
theorem dX9_turn_30 : decode cX9_turn 30 = .ok (.baload, 1) := by decide +kernel
theorem dX9_turn_31 : decode cX9_turn 31 = .ok (.istore_n 3, 1) := by decide +kernel
theorem dX9_turn_32 : decode cX9_turn 32 = .ok (.aload_n 0, 1) := by decide +kernel
theorem dX9_turn_33 : decode cX9_turn 33 = .ok (.getfield 22, 3) := by decide +kernel
theorem dX9_turn_36 : decode cX9_turn 36 = .ok (.iload_n 1, 1) := by decide +kernel
theorem dX9_turn_37 : decode cX9_turn 37 = .ok (.iload_n 2, 1) := by decide +kernel
theorem dX9_turn_38 : decode cX9_turn 38 = .ok (.bastore, 1) := by decide +kernel
theorem dX9_turn_39 : decode cX9_turn 39 = .ok (.iload_n 3, 1) := by decide +kernel
theorem dX9_turn_40 : decode cX9_turn 40 = .ok (.iload_n 2, 1) := by decide +kernel
theorem dX9_turn_41 : decode cX9_turn 41 = .ok (.if_icmp .ne 7, 3) := by decide +kernel
theorem dX9_turn_44 : decode cX9_turn 44 = .ok (.iconst 0, 1) := by decide +kernel
theorem dX9_turn_45 : decode cX9_turn 45 = .ok (.goto 4, 3) := by decide +kernel
theorem dX9_turn_48 : decode cX9_turn 48 = .ok (.iconst 1, 1) := by decide +kernel
theorem dX9_turn_49 : decode cX9_turn 49 = .ok (.ireturn, 1) := by decide +kernel
theorem dX9_reach_0 : decode cX9_reach 0 = .ok (.iconst 0, 1) := by decide +kernel
theorem dX9_reach_1 : decode cX9_reach 1 = .ok (.istore 5, 2) := by decide +kernel
theorem dX9_reach_3 : decode cX9_reach 3 = .ok (.iload 5, 2) := by decide +kernel
theorem dX9_reach_5 : decode cX9_reach 5 = .ok (.bipush 10, 2) := by decide +kernel
theorem dX9_reach_7 : decode cX9_reach 7 = .ok (.if_icmp .ge 29, 3) := by decide +kernel
theorem dX9_reach_10 : decode cX9_reach 10 = .ok (.aload_n 0, 1) := by decide +kernel
theorem dX9_reach_11 : decode cX9_reach 11 = .ok (.getfield 86, 3) := by decide +kernel
theorem dX9_reach_14 : decode cX9_reach 14 = .ok (.iload 5, 2) := by decide +kernel
theorem dX9_reach_16 : decode cX9_reach 16 = .ok (.iload 5, 2) := by decide +kernel
theorem dX9_reach_18 : decode cX9_reach 18 = .ok (.iload_n 1, 1) := by decide +kernel
theorem dX9_reach_19 : decode cX9_reach 19 = .ok (.if_icmp .ne 7, 3) := by decide +kernel
theorem dX9_reach_22 : decode cX9_reach 22 = .ok (.iconst 0, 1) := by decide +kernel
theorem dX9_reach_23 : decode cX9_reach 23 = .ok (.goto 6, 3) := by decide +kernel
theorem dX9_reach_26 : decode cX9_reach 26 = .ok (.sipush 1000, 3) := by decide +kernel
theorem dX9_reach_29 : decode cX9_reach 29 = .ok (.iastore, 1) := by decide +kernel
theorem dX9_reach_30 : decode cX9_reach 30 = .ok (.iinc 5 1, 3) := by decide +kernel
theorem dX9_reach_33 : decode cX9_reach 33 = .ok (.goto (-30), 3) := by decide +kernel
theorem dX9_reach_36 : decode cX9_reach 36 = .ok (.iconst 1, 1) := by decide +kernel
theorem dX9_reach_37 : decode cX9_reach 37 = .ok (.istore 5, 2) := by decide +kernel
theorem dX9_reach_39 : decode cX9_reach 39 = .ok (.iload 5, 2) := by decide +kernel
theorem dX9_reach_41 : decode cX9_reach 41 = .ok (.ifCond .eq 202, 3) := by decide +kernel
theorem dX9_reach_44 : decode cX9_reach 44 = .ok (.iconst 0, 1) := by decide +kernel
theorem dX9_reach_45 : decode cX9_reach 45 = .ok (.istore 5, 2) := by decide +kernel
theorem dX9_reach_47 : decode cX9_reach 47 = .ok (.iconst 0, 1) := by decide +kernel
theorem dX9_reach_48 : decode cX9_reach 48 = .ok (.istore 6, 2) := by decide +kernel
theorem dX9_reach_50 : decode cX9_reach 50 = .ok (.iload 6, 2) := by decide +kernel
theorem dX9_reach_52 : decode cX9_reach 52 = .ok (.aload_n 0, 1) := by decide +kernel
theorem dX9_reach_53 : decode cX9_reach 53 = .ok (.getfield 101, 3) := by decide +kernel
theorem dX9_reach_56 : decode cX9_reach 56 = .ok (.if_icmp .ge 184, 3) := by decide +kernel
theorem dX9_reach_59 : decode cX9_reach 59 = .ok (.iload 4, 2) := by decide +kernel
theorem dX9_reach_61 : decode cX9_reach 61 = .ok (.ifCond .eq 7, 3) := by decide +kernel
theorem dX9_reach_64 : decode cX9_reach 64 = .ok (.iconst 1, 1) := by decide +kernel
theorem dX9_reach_65 : decode cX9_reach 65 = .ok (.goto 25, 3) := by decide +kernel
theorem dX9_reach_68 : decode cX9_reach 68 = .ok (.iload_n 2, 1) := by decide +kernel
theorem dX9_reach_69 : decode cX9_reach 69 = .ok (.iload 6, 2) := by decide +kernel
theorem dX9_reach_71 : decode cX9_reach 71 = .ok (.invokestatic 125, 3) := by decide +kernel
theorem dX9_reach_74 : decode cX9_reach 74 = .ok (.ifCond .eq 15, 3) := by decide +kernel
theorem dX9_reach_77 : decode cX9_reach 77 = .ok (.iconst 1, 1) := by decide +kernel
theorem dX9_reach_78 : decode cX9_reach 78 = .ok (.aload_n 0, 1) := by decide +kernel
theorem dX9_reach_79 : decode cX9_reach 79 = .ok (.getfield 16, 3) := by decide +kernel
theorem dX9_reach_82 : decode cX9_reach 82 = .ok (.iload 6, 2) := by decide +kernel
theorem dX9_reach_84 : decode cX9_reach 84 = .ok (.iaload, 1) := by decide +kernel
theorem dX9_reach_85 : decode cX9_reach 85 = .ok (.iadd, 1) := by decide +kernel
theorem dX9_reach_86 : decode cX9_reach 86 = .ok (.goto 4, 3) := by decide +kernel
theorem dX9_reach_89 : decode cX9_reach 89 = .ok (.iconst 0, 1) := by decide +kernel
theorem dX9_reach_90 : decode cX9_reach 90 = .ok (.istore 7, 2) := by decide +kernel
theorem dX9_reach_92 : decode cX9_reach 92 = .ok (.aload_n 0, 1) := by decide +kernel
theorem dX9_reach_93 : decode cX9_reach 93 = .ok (.getfield 19, 3) := by decide +kernel
theorem dX9_reach_96 : decode cX9_reach 96 = .ok (.iload 6, 2) := by decide +kernel
theorem dX9_reach_98 : decode cX9_reach 98 = .ok (.iaload, 1) := by decide +kernel
theorem dX9_reach_99 : decode cX9_reach 99 = .ok (.iload_n 3, 1) := by decide +kernel
theorem dX9_reach_100 : decode cX9_reach 100 = .ok (.if_icmp .gt 63, 3) := by decide +kernel
theorem dX9_reach_103 : decode cX9_reach 103 = .ok (.aload_n 0, 1) := by decide +kernel
theorem dX9_reach_104 : decode cX9_reach 104 = .ok (.getfield 86, 3) := by decide +kernel
theorem dX9_reach_107 : decode cX9_reach 107 = .ok (.aload_n 0, 1) := by decide +kernel
theorem dX9_reach_108 : decode cX9_reach 108 = .ok (.getfield 7, 3) := by decide +kernel
theorem dX9_reach_111 : decode cX9_reach 111 = .ok (.iload 6, 2) := by decide +kernel
theorem dX9_reach_113 : decode cX9_reach 113 = .ok (.iaload, 1) := by decide +kernel
theorem dX9_reach_114 : decode cX9_reach 114 = .ok (.iaload, 1) := by decide +kernel
theorem dX9_reach_115 : decode cX9_reach 115 = .ok (.iload 7, 2) := by decide +kernel
theorem dX9_reach_117 : decode cX9_reach 117 = .ok (.iadd, 1) := by decide +kernel
theorem dX9_reach_118 : decode cX9_reach 118 = .ok (.aload_n 0, 1) := by decide +kernel
theorem dX9_reach_119 : decode cX9_reach 119 = .ok (.getfield 86, 3) := by decide +kernel
theorem dX9_reach_122 : decode cX9_reach 122 = .ok (.aload_n 0, 1) := by decide +kernel
theorem dX9_reach_123 : decode cX9_reach 123 = .ok (.getfield 13, 3) := by decide +kernel
theorem dX9_reach_126 : decode cX9_reach 126 = .ok (.iload 6, 2) := by decide +kernel
theorem dX9_reach_128 : decode cX9_reach 128 = .ok (.iaload, 1) := by decide +kernel
theorem dX9_reach_129 : decode cX9_reach 129 = .ok (.iaload, 1) := by decide +kernel
theorem dX9_reach_130 : decode cX9_reach 130 = .ok (.if_icmp .ge 33, 3) := by decide +kernel
theorem dX9_reach_133 : decode cX9_reach 133 = .ok (.aload_n 0, 1) := by decide +kernel
theorem dX9_reach_134 : decode cX9_reach 134 = .ok (.getfield 86, 3) := by decide +kernel
theorem dX9_reach_137 : decode cX9_reach 137 = .ok (.aload_n 0, 1) := by decide +kernel
theorem dX9_reach_138 : decode cX9_reach 138 = .ok (.getfield 13, 3) := by decide +kernel
theorem dX9_reach_141 : decode cX9_reach 141 = .ok (.iload 6, 2) := by decide +kernel
theorem dX9_reach_143 : decode cX9_reach 143 = .ok (.iaload, 1) := by decide +kernel
theorem dX9_reach_144 : decode cX9_reach 144 = .ok (.aload_n 0, 1) := by decide +kernel
theorem dX9_reach_145 : decode cX9_reach 145 = .ok (.getfield 86, 3) := by decide +kernel
theorem dX9_reach_148 : decode cX9_reach 148 = .ok (.aload_n 0, 1) := by decide +kernel
theorem dX9_reach_149 : decode cX9_reach 149 = .ok (.getfield 7, 3) := by decide +kernel
theorem dX9_reach_152 : decode cX9_reach 152 = .ok (.iload 6, 2) := by decide +kernel
theorem dX9_reach_154 : decode cX9_reach 154 = .ok (.iaload, 1) := by decide +kernel
theorem dX9_reach_155 : decode cX9_reach 155 = .ok (.iaload, 1) := by decide +kernel
theorem dX9_reach_156 : decode cX9_reach 156 = .ok (.iload 7, 2) := by decide +kernel
theorem dX9_reach_158 : decode cX9_reach 158 = .ok (.iadd, 1) := by decide +kernel
theorem dX9_reach_159 : decode cX9_reach 159 = .ok (.iastore, 1) := by decide +kernel
theorem dX9_reach_160 : decode cX9_reach 160 = .ok (.iconst 1, 1) := by decide +kernel
theorem dX9_reach_161 : decode cX9_reach 161 = .ok (.istore 5, 2) := by decide +kernel
theorem dX9_reach_163 : decode cX9_reach 163 = .ok (.aload_n 0, 1) := by decide +kernel
theorem dX9_reach_164 : decode cX9_reach 164 = .ok (.getfield 19, 3) := by decide +kernel
theorem dX9_reach_167 : decode cX9_reach 167 = .ok (.iload 6, 2) := by decide +kernel
theorem dX9_reach_169 : decode cX9_reach 169 = .ok (.iaload, 1) := by decide +kernel
theorem dX9_reach_170 : decode cX9_reach 170 = .ok (.iload_n 3, 1) := by decide +kernel
theorem dX9_reach_171 : decode cX9_reach 171 = .ok (.if_icmp .gt 63, 3) := by decide +kernel
theorem dX9_reach_174 : decode cX9_reach 174 = .ok (.aload_n 0, 1) := by decide +kernel
theorem dX9_reach_175 : decode cX9_reach 175 = .ok (.getfield 86, 3) := by decide +kernel
theorem dX9_reach_178 : decode cX9_reach 178 = .ok (.aload_n 0, 1) := by decide +kernel
theorem dX9_reach_179 : decode cX9_reach 179 = .ok (.getfield 13, 3) := by decide +kernel
theorem dX9_reach_182 : decode cX9_reach 182 = .ok (.iload 6, 2) := by decide +kernel
theorem dX9_reach_184 : decode cX9_reach 184 = .ok (.iaload, 1) := by decide +kernel
theorem dX9_reach_185 : decode cX9_reach 185 = .ok (.iaload, 1) := by decide +kernel
theorem dX9_reach_186 : decode cX9_reach 186 = .ok (.iload 7, 2) := by decide +kernel
theorem dX9_reach_188 : decode cX9_reach 188 = .ok (.iadd, 1) := by decide +kernel
theorem dX9_reach_189 : decode cX9_reach 189 = .ok (.aload_n 0, 1) := by decide +kernel
theorem dX9_reach_190 : decode cX9_reach 190 = .ok (.getfield 86, 3) := by decide +kernel
theorem dX9_reach_193 : decode cX9_reach 193 = .ok (.aload_n 0, 1) := by decide +kernel
theorem dX9_reach_194 : decode cX9_reach 194 = .ok (.getfield 7, 3) := by decide +kernel
theorem dX9_reach_197 : decode cX9_reach 197 = .ok (.iload 6, 2) := by decide +kernel
theorem dX9_reach_199 : decode cX9_reach 199 = .ok (.iaload, 1) := by decide +kernel
theorem dX9_reach_200 : decode cX9_reach 200 = .ok (.iaload, 1) := by decide +kernel
theorem dX9_reach_201 : decode cX9_reach 201 = .ok (.if_icmp .ge 33, 3) := by decide +kernel
theorem dX9_reach_204 : decode cX9_reach 204 = .ok (.aload_n 0, 1) := by decide +kernel
theorem dX9_reach_205 : decode cX9_reach 205 = .ok (.getfield 86, 3) := by decide +kernel
theorem dX9_reach_208 : decode cX9_reach 208 = .ok (.aload_n 0, 1) := by decide +kernel
theorem dX9_reach_209 : decode cX9_reach 209 = .ok (.getfield 7, 3) := by decide +kernel
theorem dX9_reach_212 : decode cX9_reach 212 = .ok (.iload 6, 2) := by decide +kernel
theorem dX9_reach_214 : decode cX9_reach 214 = .ok (.iaload, 1) := by decide +kernel
theorem dX9_reach_215 : decode cX9_reach 215 = .ok (.aload_n 0, 1) := by decide +kernel
theorem dX9_reach_216 : decode cX9_reach 216 = .ok (.getfield 86, 3) := by decide +kernel
theorem dX9_reach_219 : decode cX9_reach 219 = .ok (.aload_n 0, 1) := by decide +kernel
theorem dX9_reach_220 : decode cX9_reach 220 = .ok (.getfield 13, 3) := by decide +kernel
theorem dX9_reach_223 : decode cX9_reach 223 = .ok (.iload 6, 2) := by decide +kernel
theorem dX9_reach_225 : decode cX9_reach 225 = .ok (.iaload, 1) := by decide +kernel
theorem dX9_reach_226 : decode cX9_reach 226 = .ok (.iaload, 1) := by decide +kernel
theorem dX9_reach_227 : decode cX9_reach 227 = .ok (.iload 7, 2) := by decide +kernel
theorem dX9_reach_229 : decode cX9_reach 229 = .ok (.iadd, 1) := by decide +kernel
theorem dX9_reach_230 : decode cX9_reach 230 = .ok (.iastore, 1) := by decide +kernel
theorem dX9_reach_231 : decode cX9_reach 231 = .ok (.iconst 1, 1) := by decide +kernel
theorem dX9_reach_232 : decode cX9_reach 232 = .ok (.istore 5, 2) := by decide +kernel
theorem dX9_reach_234 : decode cX9_reach 234 = .ok (.iinc 6 1, 3) := by decide +kernel
theorem dX9_reach_237 : decode cX9_reach 237 = .ok (.goto (-187), 3) := by decide +kernel
theorem dX9_reach_240 : decode cX9_reach 240 = .ok (.goto (-201), 3) := by decide +kernel
theorem dX9_reach_243 : decode cX9_reach 243 = .ok (.return_, 1) := by decide +kernel
theorem dX9_isInForce_0 : decode cX9_isInForce 0 = .ok (.aload_n 0, 1) := by decide +kernel
theorem dX9_isInForce_1 : decode cX9_isInForce 1 = .ok (.getfield 41, 3) := by decide +kernel
theorem dX9_isInForce_4 : decode cX9_isInForce 4 = .ok (.iload_n 1, 1) := by decide +kernel
theorem dX9_isInForce_5 : decode cX9_isInForce 5 = .ok (.iaload, 1) := by decide +kernel
theorem dX9_isInForce_6 : decode cX9_isInForce 6 = .ok (.iload_n 2, 1) := by decide +kernel
theorem dX9_isInForce_7 : decode cX9_isInForce 7 = .ok (.if_icmp .gt 26, 3) := by decide +kernel
theorem dX9_isInForce_10 : decode cX9_isInForce 10 = .ok (.aload_n 0, 1) := by decide +kernel
theorem dX9_isInForce_11 : decode cX9_isInForce 11 = .ok (.getfield 44, 3) := by decide +kernel
theorem dX9_isInForce_14 : decode cX9_isInForce 14 = .ok (.iload_n 1, 1) := by decide +kernel
theorem dX9_isInForce_15 : decode cX9_isInForce 15 = .ok (.iaload, 1) := by decide +kernel
theorem dX9_isInForce_16 : decode cX9_isInForce 16 = .ok (.ifCond .lt 13, 3) := by decide +kernel
theorem dX9_isInForce_19 : decode cX9_isInForce 19 = .ok (.iload_n 2, 1) := by decide +kernel
theorem dX9_isInForce_20 : decode cX9_isInForce 20 = .ok (.aload_n 0, 1) := by decide +kernel
theorem dX9_isInForce_21 : decode cX9_isInForce 21 = .ok (.getfield 44, 3) := by decide +kernel
theorem dX9_isInForce_24 : decode cX9_isInForce 24 = .ok (.iload_n 1, 1) := by decide +kernel
theorem dX9_isInForce_25 : decode cX9_isInForce 25 = .ok (.iaload, 1) := by decide +kernel
theorem dX9_isInForce_26 : decode cX9_isInForce 26 = .ok (.if_icmp .ge 7, 3) := by decide +kernel
theorem dX9_isInForce_29 : decode cX9_isInForce 29 = .ok (.iconst 1, 1) := by decide +kernel
theorem dX9_isInForce_30 : decode cX9_isInForce 30 = .ok (.goto 4, 3) := by decide +kernel
theorem dX9_isInForce_33 : decode cX9_isInForce 33 = .ok (.iconst 0, 1) := by decide +kernel
theorem dX9_isInForce_34 : decode cX9_isInForce 34 = .ok (.ireturn, 1) := by decide +kernel
theorem dX9_wanted_0 : decode cX9_wanted 0 = .ok (.iconst 1, 1) := by decide +kernel
theorem dX9_wanted_1 : decode cX9_wanted 1 = .ok (.istore_n 3, 1) := by decide +kernel
theorem dX9_wanted_2 : decode cX9_wanted 2 = .ok (.iconst 0, 1) := by decide +kernel
theorem dX9_wanted_3 : decode cX9_wanted 3 = .ok (.istore 4, 2) := by decide +kernel
theorem dX9_wanted_5 : decode cX9_wanted 5 = .ok (.iload 4, 2) := by decide +kernel
theorem dX9_wanted_7 : decode cX9_wanted 7 = .ok (.aload_n 0, 1) := by decide +kernel
theorem dX9_wanted_8 : decode cX9_wanted 8 = .ok (.getfield 140, 3) := by decide +kernel
theorem dX9_wanted_11 : decode cX9_wanted 11 = .ok (.if_icmp .ge 47, 3) := by decide +kernel
theorem dX9_wanted_14 : decode cX9_wanted 14 = .ok (.aload_n 0, 1) := by decide +kernel
theorem dX9_wanted_15 : decode cX9_wanted 15 = .ok (.getfield 29, 3) := by decide +kernel
theorem dX9_wanted_18 : decode cX9_wanted 18 = .ok (.iload 4, 2) := by decide +kernel
theorem dX9_wanted_20 : decode cX9_wanted 20 = .ok (.iaload, 1) := by decide +kernel
theorem dX9_wanted_21 : decode cX9_wanted 21 = .ok (.iconst 2, 1) := by decide +kernel
theorem dX9_wanted_22 : decode cX9_wanted 22 = .ok (.if_icmp .ne 28, 3) := by decide +kernel
theorem dX9_wanted_25 : decode cX9_wanted 25 = .ok (.aload_n 0, 1) := by decide +kernel
theorem dX9_wanted_26 : decode cX9_wanted 26 = .ok (.getfield 32, 3) := by decide +kernel
theorem dX9_wanted_29 : decode cX9_wanted 29 = .ok (.iload 4, 2) := by decide +kernel
theorem dX9_wanted_31 : decode cX9_wanted 31 = .ok (.iaload, 1) := by decide +kernel
theorem dX9_wanted_32 : decode cX9_wanted 32 = .ok (.iload_n 1, 1) := by decide +kernel
theorem dX9_wanted_33 : decode cX9_wanted 33 = .ok (.if_icmp .ne 17, 3) := by decide +kernel
theorem dX9_wanted_36 : decode cX9_wanted 36 = .ok (.aload_n 0, 1) := by decide +kernel
theorem dX9_wanted_37 : decode cX9_wanted 37 = .ok (.iload 4, 2) := by decide +kernel
theorem dX9_wanted_39 : decode cX9_wanted 39 = .ok (.iload_n 2, 1) := by decide +kernel
theorem dX9_wanted_40 : decode cX9_wanted 40 = .ok (.invokevirtual 143, 3) := by decide +kernel
theorem dX9_wanted_43 : decode cX9_wanted 43 = .ok (.ifCond .eq 7, 3) := by decide +kernel
theorem dX9_wanted_46 : decode cX9_wanted 46 = .ok (.iconst 2, 1) := by decide +kernel
theorem dX9_wanted_47 : decode cX9_wanted 47 = .ok (.goto 4, 3) := by decide +kernel
theorem dX9_wanted_50 : decode cX9_wanted 50 = .ok (.iload_n 3, 1) := by decide +kernel
theorem dX9_wanted_51 : decode cX9_wanted 51 = .ok (.istore_n 3, 1) := by decide +kernel
theorem dX9_wanted_52 : decode cX9_wanted 52 = .ok (.iinc 4 1, 3) := by decide +kernel
theorem dX9_wanted_55 : decode cX9_wanted 55 = .ok (.goto (-50), 3) := by decide +kernel
theorem dX9_wanted_58 : decode cX9_wanted 58 = .ok (.iload_n 3, 1) := by decide +kernel
theorem dX9_wanted_59 : decode cX9_wanted 59 = .ok (.ireturn, 1) := by decide +kernel
theorem dX9_isSafe_0 : decode cX9_isSafe 0 = .ok (.aload_n 0, 1) := by decide +kernel
theorem dX9_isSafe_1 : decode cX9_isSafe 1 = .ok (.iload_n 1, 1) := by decide +kernel
theorem dX9_isSafe_2 : decode cX9_isSafe 2 = .ok (.iload_n 2, 1) := by decide +kernel
theorem dX9_isSafe_3 : decode cX9_isSafe 3 = .ok (.iload 4, 2) := by decide +kernel
theorem dX9_isSafe_5 : decode cX9_isSafe 5 = .ok (.iconst 0, 1) := by decide +kernel
theorem dX9_isSafe_6 : decode cX9_isSafe 6 = .ok (.invokevirtual 146, 3) := by decide +kernel
theorem dX9_isSafe_9 : decode cX9_isSafe 9 = .ok (.iconst 1, 1) := by decide +kernel
theorem dX9_isSafe_10 : decode cX9_isSafe 10 = .ok (.istore 5, 2) := by decide +kernel
theorem dX9_isSafe_12 : decode cX9_isSafe 12 = .ok (.iconst 0, 1) := by decide +kernel
theorem dX9_isSafe_13 : decode cX9_isSafe 13 = .ok (.istore 6, 2) := by decide +kernel
theorem dX9_isSafe_15 : decode cX9_isSafe 15 = .ok (.iload 6, 2) := by decide +kernel
theorem dX9_isSafe_17 : decode cX9_isSafe 17 = .ok (.iconst 3, 1) := by decide +kernel
theorem dX9_isSafe_18 : decode cX9_isSafe 18 = .ok (.if_icmp .ge 79, 3) := by decide +kernel
theorem dX9_isSafe_21 : decode cX9_isSafe 21 = .ok (.aload_n 0, 1) := by decide +kernel
theorem dX9_isSafe_22 : decode cX9_isSafe 22 = .ok (.iload 6, 2) := by decide +kernel
theorem dX9_isSafe_24 : decode cX9_isSafe 24 = .ok (.iload_n 3, 1) := by decide +kernel
theorem dX9_isSafe_25 : decode cX9_isSafe 25 = .ok (.invokevirtual 150, 3) := by decide +kernel
theorem dX9_isSafe_28 : decode cX9_isSafe 28 = .ok (.istore 7, 2) := by decide +kernel
theorem dX9_isSafe_30 : decode cX9_isSafe 30 = .ok (.iconst 0, 1) := by decide +kernel
theorem dX9_isSafe_31 : decode cX9_isSafe 31 = .ok (.istore 8, 2) := by decide +kernel
theorem dX9_isSafe_33 : decode cX9_isSafe 33 = .ok (.iload 8, 2) := by decide +kernel
theorem dX9_isSafe_35 : decode cX9_isSafe 35 = .ok (.bipush 10, 2) := by decide +kernel
theorem dX9_isSafe_37 : decode cX9_isSafe 37 = .ok (.if_icmp .ge 54, 3) := by decide +kernel
theorem dX9_isSafe_40 : decode cX9_isSafe 40 = .ok (.iload 5, 2) := by decide +kernel
theorem dX9_isSafe_42 : decode cX9_isSafe 42 = .ok (.ifCond .eq 40, 3) := by decide +kernel
theorem dX9_isSafe_45 : decode cX9_isSafe 45 = .ok (.aload_n 0, 1) := by decide +kernel
theorem dX9_isSafe_46 : decode cX9_isSafe 46 = .ok (.getfield 26, 3) := by decide +kernel
theorem dX9_isSafe_49 : decode cX9_isSafe 49 = .ok (.iconst 3, 1) := by decide +kernel
theorem dX9_isSafe_50 : decode cX9_isSafe 50 = .ok (.iload 8, 2) := by decide +kernel
theorem dX9_isSafe_52 : decode cX9_isSafe 52 = .ok (.imul, 1) := by decide +kernel
theorem dX9_isSafe_53 : decode cX9_isSafe 53 = .ok (.iload 6, 2) := by decide +kernel
theorem dX9_isSafe_55 : decode cX9_isSafe 55 = .ok (.iadd, 1) := by decide +kernel
theorem dX9_isSafe_56 : decode cX9_isSafe 56 = .ok (.baload, 1) := by decide +kernel
theorem dX9_isSafe_57 : decode cX9_isSafe 57 = .ok (.ifCond .eq 21, 3) := by decide +kernel
theorem dX9_isSafe_60 : decode cX9_isSafe 60 = .ok (.aload_n 0, 1) := by decide +kernel
theorem dX9_isSafe_61 : decode cX9_isSafe 61 = .ok (.getfield 86, 3) := by decide +kernel
theorem dX9_isSafe_64 : decode cX9_isSafe 64 = .ok (.iload 8, 2) := by decide +kernel
theorem dX9_isSafe_66 : decode cX9_isSafe 66 = .ok (.iaload, 1) := by decide +kernel
theorem dX9_isSafe_67 : decode cX9_isSafe 67 = .ok (.iload 7, 2) := by decide +kernel
theorem dX9_isSafe_69 : decode cX9_isSafe 69 = .ok (.if_icmp .lt 13, 3) := by decide +kernel
theorem dX9_isSafe_72 : decode cX9_isSafe 72 = .ok (.iload 8, 2) := by decide +kernel
theorem dX9_isSafe_74 : decode cX9_isSafe 74 = .ok (.iload_n 1, 1) := by decide +kernel
theorem dX9_isSafe_75 : decode cX9_isSafe 75 = .ok (.if_icmp .eq 7, 3) := by decide +kernel
theorem dX9_isSafe_78 : decode cX9_isSafe 78 = .ok (.iconst 1, 1) := by decide +kernel
theorem dX9_isSafe_79 : decode cX9_isSafe 79 = .ok (.goto 4, 3) := by decide +kernel
theorem dX9_isSafe_82 : decode cX9_isSafe 82 = .ok (.iconst 0, 1) := by decide +kernel
theorem dX9_isSafe_83 : decode cX9_isSafe 83 = .ok (.istore 5, 2) := by decide +kernel
theorem dX9_isSafe_85 : decode cX9_isSafe 85 = .ok (.iinc 8 1, 3) := by decide +kernel
theorem dX9_isSafe_88 : decode cX9_isSafe 88 = .ok (.goto (-55), 3) := by decide +kernel
theorem dX9_isSafe_91 : decode cX9_isSafe 91 = .ok (.iinc 6 1, 3) := by decide +kernel
theorem dX9_isSafe_94 : decode cX9_isSafe 94 = .ok (.goto (-79), 3) := by decide +kernel
theorem dX9_isSafe_97 : decode cX9_isSafe 97 = .ok (.iload 5, 2) := by decide +kernel
theorem dX9_isSafe_99 : decode cX9_isSafe 99 = .ok (.ireturn, 1) := by decide +kernel
theorem dX9_isSafeNow_0 : decode cX9_isSafeNow 0 = .ok (.aload_n 0, 1) := by decide +kernel
theorem dX9_isSafeNow_1 : decode cX9_isSafeNow 1 = .ok (.iload_n 1, 1) := by decide +kernel
theorem dX9_isSafeNow_2 : decode cX9_isSafeNow 2 = .ok (.iload_n 2, 1) := by decide +kernel
theorem dX9_isSafeNow_3 : decode cX9_isSafeNow 3 = .ok (.aload_n 0, 1) := by decide +kernel
theorem dX9_isSafeNow_4 : decode cX9_isSafeNow 4 = .ok (.getfield 119, 3) := by decide +kernel
theorem dX9_isSafeNow_7 : decode cX9_isSafeNow 7 = .ok (.aload_n 0, 1) := by decide +kernel
theorem dX9_isSafeNow_8 : decode cX9_isSafeNow 8 = .ok (.getfield 119, 3) := by decide +kernel
theorem dX9_isSafeNow_11 : decode cX9_isSafeNow 11 = .ok (.invokevirtual 154, 3) := by decide +kernel
theorem dX9_isSafeNow_14 : decode cX9_isSafeNow 14 = .ok (.ireturn, 1) := by decide +kernel
theorem dX9_safe_0 : decode cX9_safe 0 = .ok (.iload_n 1, 1) := by decide +kernel
theorem dX9_safe_1 : decode cX9_safe 1 = .ok (.invokestatic 116, 3) := by decide +kernel
theorem dX9_safe_4 : decode cX9_safe 4 = .ok (.ifCond .ne 5, 3) := by decide +kernel
theorem dX9_safe_7 : decode cX9_safe 7 = .ok (.iconst (-1), 1) := by decide +kernel
theorem dX9_safe_8 : decode cX9_safe 8 = .ok (.ireturn, 1) := by decide +kernel
theorem dX9_safe_9 : decode cX9_safe 9 = .ok (.aload_n 0, 1) := by decide +kernel
theorem dX9_safe_10 : decode cX9_safe 10 = .ok (.iload_n 1, 1) := by decide +kernel
theorem dX9_safe_11 : decode cX9_safe 11 = .ok (.aload_n 0, 1) := by decide +kernel
theorem dX9_safe_12 : decode cX9_safe 12 = .ok (.invokevirtual 133, 3) := by decide +kernel
theorem dX9_safe_15 : decode cX9_safe 15 = .ok (.invokevirtual 158, 3) := by decide +kernel
theorem dX9_safe_18 : decode cX9_safe 18 = .ok (.ifCond .eq 7, 3) := by decide +kernel
theorem dX9_safe_21 : decode cX9_safe 21 = .ok (.iconst 1, 1) := by decide +kernel
theorem dX9_safe_22 : decode cX9_safe 22 = .ok (.goto 4, 3) := by decide +kernel
theorem dX9_safe_25 : decode cX9_safe 25 = .ok (.iconst 0, 1) := by decide +kernel
theorem dX9_safe_26 : decode cX9_safe 26 = .ok (.ireturn, 1) := by decide +kernel
theorem dX9_between_0 : decode cX9_between 0 = .ok (.iload_n 1, 1) := by decide +kernel
theorem dX9_between_1 : decode cX9_between 1 = .ok (.invokestatic 116, 3) := by decide +kernel
theorem dX9_between_4 : decode cX9_between 4 = .ok (.ifCond .eq 10, 3) := by decide +kernel
theorem dX9_between_7 : decode cX9_between 7 = .ok (.iload_n 2, 1) := by decide +kernel
theorem dX9_between_8 : decode cX9_between 8 = .ok (.invokestatic 116, 3) := by decide +kernel
theorem dX9_between_11 : decode cX9_between 11 = .ok (.ifCond .ne 5, 3) := by decide +kernel
theorem dX9_between_14 : decode cX9_between 14 = .ok (.iconst (-1), 1) := by decide +kernel
theorem dX9_between_15 : decode cX9_between 15 = .ok (.ireturn, 1) := by decide +kernel
theorem dX9_between_16 : decode cX9_between 16 = .ok (.aload_n 0, 1) := by decide +kernel
theorem dX9_between_17 : decode cX9_between 17 = .ok (.iload_n 1, 1) := by decide +kernel
theorem dX9_between_18 : decode cX9_between 18 = .ok (.aload_n 0, 1) := by decide +kernel
theorem dX9_between_19 : decode cX9_between 19 = .ok (.invokevirtual 133, 3) := by decide +kernel
theorem dX9_between_22 : decode cX9_between 22 = .ok (.aload_n 0, 1) := by decide +kernel
theorem dX9_between_23 : decode cX9_between 23 = .ok (.getfield 119, 3) := by decide +kernel
theorem dX9_between_26 : decode cX9_between 26 = .ok (.iload_n 3, 1) := by decide +kernel
theorem dX9_between_27 : decode cX9_between 27 = .ok (.invokevirtual 146, 3) := by decide +kernel
theorem dX9_between_30 : decode cX9_between 30 = .ok (.aload_n 0, 1) := by decide +kernel
theorem dX9_between_31 : decode cX9_between 31 = .ok (.getfield 86, 3) := by decide +kernel
theorem dX9_between_34 : decode cX9_between 34 = .ok (.iload_n 2, 1) := by decide +kernel
theorem dX9_between_35 : decode cX9_between 35 = .ok (.iaload, 1) := by decide +kernel
theorem dX9_between_36 : decode cX9_between 36 = .ok (.sipush 1000, 3) := by decide +kernel
theorem dX9_between_39 : decode cX9_between 39 = .ok (.if_icmp .ne 8, 3) := by decide +kernel
theorem dX9_between_42 : decode cX9_between 42 = .ok (.bipush (-3), 2) := by decide +kernel
theorem dX9_between_44 : decode cX9_between 44 = .ok (.goto 9, 3) := by decide +kernel
theorem dX9_between_47 : decode cX9_between 47 = .ok (.aload_n 0, 1) := by decide +kernel
theorem dX9_between_48 : decode cX9_between 48 = .ok (.getfield 86, 3) := by decide +kernel
theorem dX9_between_51 : decode cX9_between 51 = .ok (.iload_n 2, 1) := by decide +kernel
theorem dX9_between_52 : decode cX9_between 52 = .ok (.iaload, 1) := by decide +kernel
theorem dX9_between_53 : decode cX9_between 53 = .ok (.ireturn, 1) := by decide +kernel
theorem dX9_barriers_0 : decode cX9_barriers 0 = .ok (.aload_n 0, 1) := by decide +kernel
theorem dX9_barriers_1 : decode cX9_barriers 1 = .ok (.iload_n 1, 1) := by decide +kernel
theorem dX9_barriers_2 : decode cX9_barriers 2 = .ok (.iload_n 2, 1) := by decide +kernel
theorem dX9_barriers_3 : decode cX9_barriers 3 = .ok (.iconst 0, 1) := by decide +kernel
theorem dX9_barriers_4 : decode cX9_barriers 4 = .ok (.invokevirtual 161, 3) := by decide +kernel
theorem dX9_barriers_7 : decode cX9_barriers 7 = .ok (.ireturn, 1) := by decide +kernel
theorem dX9_apart_0 : decode cX9_apart 0 = .ok (.aload_n 0, 1) := by decide +kernel
theorem dX9_apart_1 : decode cX9_apart 1 = .ok (.iload_n 1, 1) := by decide +kernel
theorem dX9_apart_2 : decode cX9_apart 2 = .ok (.iload_n 2, 1) := by decide +kernel
theorem dX9_apart_3 : decode cX9_apart 3 = .ok (.iconst 1, 1) := by decide +kernel
theorem dX9_apart_4 : decode cX9_apart 4 = .ok (.invokevirtual 161, 3) := by decide +kernel
theorem dX9_apart_7 : decode cX9_apart 7 = .ok (.ireturn, 1) := by decide +kernel
theorem dX9_liveNow_0 : decode cX9_liveNow 0 = .ok (.iconst 0, 1) := by decide +kernel
theorem dX9_liveNow_1 : decode cX9_liveNow 1 = .ok (.istore_n 1, 1) := by decide +kernel
theorem dX9_liveNow_2 : decode cX9_liveNow 2 = .ok (.iconst 0, 1) := by decide +kernel
theorem dX9_liveNow_3 : decode cX9_liveNow 3 = .ok (.istore_n 2, 1) := by decide +kernel
theorem dX9_liveNow_4 : decode cX9_liveNow 4 = .ok (.iload_n 2, 1) := by decide +kernel
theorem dX9_liveNow_5 : decode cX9_liveNow 5 = .ok (.aload_n 0, 1) := by decide +kernel
theorem dX9_liveNow_6 : decode cX9_liveNow 6 = .ok (.getfield 113, 3) := by decide +kernel
theorem dX9_liveNow_9 : decode cX9_liveNow 9 = .ok (.if_icmp .ge 29, 3) := by decide +kernel
theorem dX9_liveNow_12 : decode cX9_liveNow 12 = .ok (.iload_n 1, 1) := by decide +kernel
theorem dX9_liveNow_13 : decode cX9_liveNow 13 = .ok (.aload_n 0, 1) := by decide +kernel
theorem dX9_liveNow_14 : decode cX9_liveNow 14 = .ok (.getfield 62, 3) := by decide +kernel
theorem dX9_liveNow_17 : decode cX9_liveNow 17 = .ok (.iload_n 2, 1) := by decide +kernel
theorem dX9_liveNow_18 : decode cX9_liveNow 18 = .ok (.iaload, 1) := by decide +kernel
theorem dX9_liveNow_19 : decode cX9_liveNow 19 = .ok (.iconst 3, 1) := by decide +kernel
theorem dX9_liveNow_20 : decode cX9_liveNow 20 = .ok (.if_icmp .ne 9, 3) := by decide +kernel
theorem dX9_liveNow_23 : decode cX9_liveNow 23 = .ok (.iconst 1, 1) := by decide +kernel
theorem dX9_liveNow_24 : decode cX9_liveNow 24 = .ok (.iload_n 2, 1) := by decide +kernel
theorem dX9_liveNow_25 : decode cX9_liveNow 25 = .ok (.ishl, 1) := by decide +kernel
theorem dX9_liveNow_26 : decode cX9_liveNow 26 = .ok (.goto 4, 3) := by decide +kernel
theorem dX9_liveNow_29 : decode cX9_liveNow 29 = .ok (.iconst 0, 1) := by decide +kernel
theorem dX9_liveNow_30 : decode cX9_liveNow 30 = .ok (.ior, 1) := by decide +kernel
theorem dX9_liveNow_31 : decode cX9_liveNow 31 = .ok (.istore_n 1, 1) := by decide +kernel
theorem dX9_liveNow_32 : decode cX9_liveNow 32 = .ok (.iinc 2 1, 3) := by decide +kernel
theorem dX9_liveNow_35 : decode cX9_liveNow 35 = .ok (.goto (-31), 3) := by decide +kernel
theorem dX9_liveNow_38 : decode cX9_liveNow 38 = .ok (.iload_n 1, 1) := by decide +kernel
theorem dX9_liveNow_39 : decode cX9_liveNow 39 = .ok (.ireturn, 1) := by decide +kernel
theorem dX9_go_0 : decode cX9_go 0 = .ok (.iload_n 1, 1) := by decide +kernel
theorem dX9_go_1 : decode cX9_go 1 = .ok (.iconst 1, 1) := by decide +kernel
theorem dX9_go_2 : decode cX9_go 2 = .ok (.bipush 48, 2) := by decide +kernel
theorem dX9_go_4 : decode cX9_go 4 = .ok (.invokestatic 105, 3) := by decide +kernel
theorem dX9_go_7 : decode cX9_go 7 = .ok (.ifCond .eq 15, 3) := by decide +kernel
theorem dX9_go_10 : decode cX9_go 10 = .ok (.aload_n 0, 1) := by decide +kernel
theorem dX9_go_11 : decode cX9_go 11 = .ok (.getfield 119, 3) := by decide +kernel
theorem dX9_go_14 : decode cX9_go 14 = .ok (.iload_n 1, 1) := by decide +kernel
theorem dX9_go_15 : decode cX9_go 15 = .ok (.iadd, 1) := by decide +kernel
theorem dX9_go_16 : decode cX9_go 16 = .ok (.sipush 300, 3) := by decide +kernel
theorem dX9_go_19 : decode cX9_go 19 = .ok (.if_icmp .le 5, 3) := by decide +kernel
theorem dX9_go_22 : decode cX9_go 22 = .ok (.iconst (-1), 1) := by decide +kernel
theorem dX9_go_23 : decode cX9_go 23 = .ok (.ireturn, 1) := by decide +kernel
theorem dX9_go_24 : decode cX9_go 24 = .ok (.iconst 0, 1) := by decide +kernel
theorem dX9_go_25 : decode cX9_go 25 = .ok (.istore_n 2, 1) := by decide +kernel
theorem dX9_go_26 : decode cX9_go 26 = .ok (.iload_n 2, 1) := by decide +kernel
theorem dX9_go_27 : decode cX9_go 27 = .ok (.iload_n 1, 1) := by decide +kernel
theorem dX9_go_28 : decode cX9_go 28 = .ok (.if_icmp .ge 45, 3) := by decide +kernel
theorem dX9_go_31 : decode cX9_go 31 = .ok (.aload_n 0, 1) := by decide +kernel
theorem dX9_go_32 : decode cX9_go 32 = .ok (.getfield 77, 3) := by decide +kernel
theorem dX9_go_35 : decode cX9_go 35 = .ok (.aload_n 0, 1) := by decide +kernel
theorem dX9_go_36 : decode cX9_go 36 = .ok (.getfield 119, 3) := by decide +kernel
theorem dX9_go_39 : decode cX9_go 39 = .ok (.aload_n 0, 1) := by decide +kernel
theorem dX9_go_40 : decode cX9_go 40 = .ok (.invokevirtual 133, 3) := by decide +kernel
theorem dX9_go_43 : decode cX9_go 43 = .ok (.iastore, 1) := by decide +kernel
theorem dX9_go_44 : decode cX9_go 44 = .ok (.aload_n 0, 1) := by decide +kernel
theorem dX9_go_45 : decode cX9_go 45 = .ok (.getfield 80, 3) := by decide +kernel
theorem dX9_go_48 : decode cX9_go 48 = .ok (.aload_n 0, 1) := by decide +kernel
theorem dX9_go_49 : decode cX9_go 49 = .ok (.getfield 119, 3) := by decide +kernel
theorem dX9_go_52 : decode cX9_go 52 = .ok (.aload_n 0, 1) := by decide +kernel
theorem dX9_go_53 : decode cX9_go 53 = .ok (.invokevirtual 165, 3) := by decide +kernel
theorem dX9_go_56 : decode cX9_go 56 = .ok (.iastore, 1) := by decide +kernel
theorem dX9_go_57 : decode cX9_go 57 = .ok (.aload_n 0, 1) := by decide +kernel
theorem dX9_go_58 : decode cX9_go 58 = .ok (.dup, 1) := by decide +kernel
theorem dX9_go_59 : decode cX9_go 59 = .ok (.getfield 119, 3) := by decide +kernel
theorem dX9_go_62 : decode cX9_go 62 = .ok (.iconst 1, 1) := by decide +kernel
theorem dX9_go_63 : decode cX9_go 63 = .ok (.iadd, 1) := by decide +kernel
theorem dX9_go_64 : decode cX9_go 64 = .ok (.putfield 119, 3) := by decide +kernel
theorem dX9_go_67 : decode cX9_go 67 = .ok (.iinc 2 1, 3) := by decide +kernel
theorem dX9_go_70 : decode cX9_go 70 = .ok (.goto (-44), 3) := by decide +kernel
theorem dX9_go_73 : decode cX9_go 73 = .ok (.aload_n 0, 1) := by decide +kernel
theorem dX9_go_74 : decode cX9_go 74 = .ok (.getfield 119, 3) := by decide +kernel
theorem dX9_go_77 : decode cX9_go 77 = .ok (.ireturn, 1) := by decide +kernel
theorem dX9_feed_0 : decode cX9_feed 0 = .ok (.iload_n 3, 1) := by decide +kernel
theorem dX9_feed_1 : decode cX9_feed 1 = .ok (.iconst 1, 1) := by decide +kernel
theorem dX9_feed_2 : decode cX9_feed 2 = .ok (.bipush 8, 2) := by decide +kernel
theorem dX9_feed_4 : decode cX9_feed 4 = .ok (.invokestatic 105, 3) := by decide +kernel
theorem dX9_feed_7 : decode cX9_feed 7 = .ok (.ifCond .ne 5, 3) := by decide +kernel
theorem dX9_feed_10 : decode cX9_feed 10 = .ok (.iconst (-1), 1) := by decide +kernel
theorem dX9_feed_11 : decode cX9_feed 11 = .ok (.ireturn, 1) := by decide +kernel
theorem dX9_feed_12 : decode cX9_feed 12 = .ok (.aload_n 0, 1) := by decide +kernel
theorem dX9_feed_13 : decode cX9_feed 13 = .ok (.getfield 168, 3) := by decide +kernel
theorem dX9_feed_16 : decode cX9_feed 16 = .ok (.iload_n 3, 1) := by decide +kernel
theorem dX9_feed_17 : decode cX9_feed 17 = .ok (.iadd, 1) := by decide +kernel
theorem dX9_feed_18 : decode cX9_feed 18 = .ok (.bipush 60, 2) := by decide +kernel
theorem dX9_feed_20 : decode cX9_feed 20 = .ok (.if_icmp .le 6, 3) := by decide +kernel
theorem dX9_feed_23 : decode cX9_feed 23 = .ok (.bipush (-2), 2) := by decide +kernel
theorem dX9_feed_25 : decode cX9_feed 25 = .ok (.ireturn, 1) := by decide +kernel
theorem dX9_feed_26 : decode cX9_feed 26 = .ok (.iconst 0, 1) := by decide +kernel
theorem dX9_feed_27 : decode cX9_feed 27 = .ok (.istore 4, 2) := by decide +kernel
theorem dX9_feed_29 : decode cX9_feed 29 = .ok (.iload 4, 2) := by decide +kernel
theorem dX9_feed_31 : decode cX9_feed 31 = .ok (.iload_n 3, 1) := by decide +kernel
theorem dX9_feed_32 : decode cX9_feed 32 = .ok (.if_icmp .ge 40, 3) := by decide +kernel
theorem dX9_feed_35 : decode cX9_feed 35 = .ok (.aload_n 0, 1) := by decide +kernel
theorem dX9_feed_36 : decode cX9_feed 36 = .ok (.getfield 83, 3) := by decide +kernel
theorem dX9_feed_39 : decode cX9_feed 39 = .ok (.aload_n 0, 1) := by decide +kernel
theorem dX9_feed_40 : decode cX9_feed 40 = .ok (.getfield 168, 3) := by decide +kernel
theorem dX9_feed_43 : decode cX9_feed 43 = .ok (.lload_n 1, 1) := by decide +kernel
theorem dX9_feed_44 : decode cX9_feed 44 = .ok (.bipush 8, 2) := by decide +kernel
theorem dX9_feed_46 : decode cX9_feed 46 = .ok (.iload 4, 2) := by decide +kernel
theorem dX9_feed_48 : decode cX9_feed 48 = .ok (.imul, 1) := by decide +kernel
theorem dX9_feed_49 : decode cX9_feed 49 = .ok (.lshr, 1) := by decide +kernel
theorem dX9_feed_50 : decode cX9_feed 50 = .ok (.ldc2_w 171, 3) := by decide +kernel
theorem dX9_feed_53 : decode cX9_feed 53 = .ok (.land, 1) := by decide +kernel
theorem dX9_feed_54 : decode cX9_feed 54 = .ok (.l2i, 1) := by decide +kernel
theorem dX9_feed_55 : decode cX9_feed 55 = .ok (.iastore, 1) := by decide +kernel
theorem dX9_feed_56 : decode cX9_feed 56 = .ok (.aload_n 0, 1) := by decide +kernel
theorem dX9_feed_57 : decode cX9_feed 57 = .ok (.dup, 1) := by decide +kernel
theorem dX9_feed_58 : decode cX9_feed 58 = .ok (.getfield 168, 3) := by decide +kernel
theorem dX9_feed_61 : decode cX9_feed 61 = .ok (.iconst 1, 1) := by decide +kernel
theorem dX9_feed_62 : decode cX9_feed 62 = .ok (.iadd, 1) := by decide +kernel
theorem dX9_feed_63 : decode cX9_feed 63 = .ok (.putfield 168, 3) := by decide +kernel
theorem dX9_feed_66 : decode cX9_feed 66 = .ok (.iinc 4 1, 3) := by decide +kernel
theorem dX9_feed_69 : decode cX9_feed 69 = .ok (.goto (-40), 3) := by decide +kernel
theorem dX9_feed_72 : decode cX9_feed 72 = .ok (.aload_n 0, 1) := by decide +kernel
theorem dX9_feed_73 : decode cX9_feed 73 = .ok (.getfield 168, 3) := by decide +kernel
theorem dX9_feed_76 : decode cX9_feed 76 = .ok (.ireturn, 1) := by decide +kernel
theorem dX9_isDigit_0 : decode cX9_isDigit 0 = .ok (.iload_n 1, 1) := by decide +kernel
theorem dX9_isDigit_1 : decode cX9_isDigit 1 = .ok (.aload_n 0, 1) := by decide +kernel
theorem dX9_isDigit_2 : decode cX9_isDigit 2 = .ok (.getfield 168, 3) := by decide +kernel
theorem dX9_isDigit_5 : decode cX9_isDigit 5 = .ok (.if_icmp .ge 23, 3) := by decide +kernel
theorem dX9_isDigit_8 : decode cX9_isDigit 8 = .ok (.aload_n 0, 1) := by decide +kernel
theorem dX9_isDigit_9 : decode cX9_isDigit 9 = .ok (.getfield 83, 3) := by decide +kernel
theorem dX9_isDigit_12 : decode cX9_isDigit 12 = .ok (.iload_n 1, 1) := by decide +kernel
theorem dX9_isDigit_13 : decode cX9_isDigit 13 = .ok (.iaload, 1) := by decide +kernel
theorem dX9_isDigit_14 : decode cX9_isDigit 14 = .ok (.bipush 48, 2) := by decide +kernel
theorem dX9_isDigit_16 : decode cX9_isDigit 16 = .ok (.bipush 57, 2) := by decide +kernel
theorem dX9_isDigit_18 : decode cX9_isDigit 18 = .ok (.invokestatic 105, 3) := by decide +kernel
theorem dX9_isDigit_21 : decode cX9_isDigit 21 = .ok (.ifCond .eq 7, 3) := by decide +kernel
theorem dX9_isDigit_24 : decode cX9_isDigit 24 = .ok (.iconst 1, 1) := by decide +kernel
theorem dX9_isDigit_25 : decode cX9_isDigit 25 = .ok (.goto 4, 3) := by decide +kernel
theorem dX9_isDigit_28 : decode cX9_isDigit 28 = .ok (.iconst 0, 1) := by decide +kernel
theorem dX9_isDigit_29 : decode cX9_isDigit 29 = .ok (.ireturn, 1) := by decide +kernel
theorem dX9_isLetter_0 : decode cX9_isLetter 0 = .ok (.iload_n 1, 1) := by decide +kernel
theorem dX9_isLetter_1 : decode cX9_isLetter 1 = .ok (.aload_n 0, 1) := by decide +kernel
theorem dX9_isLetter_2 : decode cX9_isLetter 2 = .ok (.getfield 168, 3) := by decide +kernel
theorem dX9_isLetter_5 : decode cX9_isLetter 5 = .ok (.if_icmp .ge 23, 3) := by decide +kernel
theorem dX9_isLetter_8 : decode cX9_isLetter 8 = .ok (.aload_n 0, 1) := by decide +kernel
theorem dX9_isLetter_9 : decode cX9_isLetter 9 = .ok (.getfield 83, 3) := by decide +kernel
theorem dX9_isLetter_12 : decode cX9_isLetter 12 = .ok (.iload_n 1, 1) := by decide +kernel
theorem dX9_isLetter_13 : decode cX9_isLetter 13 = .ok (.iaload, 1) := by decide +kernel
theorem dX9_isLetter_14 : decode cX9_isLetter 14 = .ok (.bipush 97, 2) := by decide +kernel
theorem dX9_isLetter_16 : decode cX9_isLetter 16 = .ok (.bipush 122, 2) := by decide +kernel
theorem dX9_isLetter_18 : decode cX9_isLetter 18 = .ok (.invokestatic 105, 3) := by decide +kernel
theorem dX9_isLetter_21 : decode cX9_isLetter 21 = .ok (.ifCond .eq 7, 3) := by decide +kernel
theorem dX9_isLetter_24 : decode cX9_isLetter 24 = .ok (.iconst 1, 1) := by decide +kernel
theorem dX9_isLetter_25 : decode cX9_isLetter 25 = .ok (.goto 4, 3) := by decide +kernel
theorem dX9_isLetter_28 : decode cX9_isLetter 28 = .ok (.iconst 0, 1) := by decide +kernel
theorem dX9_isLetter_29 : decode cX9_isLetter 29 = .ok (.ireturn, 1) := by decide +kernel
theorem dX9_next_0 : decode cX9_next 0 = .ok (.aload_n 0, 1) := by decide +kernel
theorem dX9_next_1 : decode cX9_next 1 = .ok (.aload_n 0, 1) := by decide +kernel
theorem dX9_next_2 : decode cX9_next 2 = .ok (.getfield 173, 3) := by decide +kernel
theorem dX9_next_5 : decode cX9_next 5 = .ok (.putfield 176, 3) := by decide +kernel
theorem dX9_next_8 : decode cX9_next 8 = .ok (.aload_n 0, 1) := by decide +kernel
theorem dX9_next_9 : decode cX9_next 9 = .ok (.getfield 176, 3) := by decide +kernel
theorem dX9_next_12 : decode cX9_next 12 = .ok (.aload_n 0, 1) := by decide +kernel
theorem dX9_next_13 : decode cX9_next 13 = .ok (.getfield 168, 3) := by decide +kernel
theorem dX9_next_16 : decode cX9_next 16 = .ok (.if_icmp .ge 30, 3) := by decide +kernel
theorem dX9_next_19 : decode cX9_next 19 = .ok (.aload_n 0, 1) := by decide +kernel
theorem dX9_next_20 : decode cX9_next 20 = .ok (.getfield 83, 3) := by decide +kernel
theorem dX9_next_23 : decode cX9_next 23 = .ok (.aload_n 0, 1) := by decide +kernel
theorem dX9_next_24 : decode cX9_next 24 = .ok (.getfield 176, 3) := by decide +kernel
theorem dX9_next_27 : decode cX9_next 27 = .ok (.iaload, 1) := by decide +kernel
theorem dX9_next_28 : decode cX9_next 28 = .ok (.bipush 32, 2) := by decide +kernel
theorem dX9_next_30 : decode cX9_next 30 = .ok (.if_icmp .ne 16, 3) := by decide +kernel
theorem dX9_next_33 : decode cX9_next 33 = .ok (.aload_n 0, 1) := by decide +kernel
theorem dX9_next_34 : decode cX9_next 34 = .ok (.dup, 1) := by decide +kernel
theorem dX9_next_35 : decode cX9_next 35 = .ok (.getfield 176, 3) := by decide +kernel
theorem dX9_next_38 : decode cX9_next 38 = .ok (.iconst 1, 1) := by decide +kernel
theorem dX9_next_39 : decode cX9_next 39 = .ok (.iadd, 1) := by decide +kernel
theorem dX9_next_40 : decode cX9_next 40 = .ok (.putfield 176, 3) := by decide +kernel
theorem dX9_next_43 : decode cX9_next 43 = .ok (.goto (-35), 3) := by decide +kernel
theorem dX9_next_46 : decode cX9_next 46 = .ok (.aload_n 0, 1) := by decide +kernel
theorem dX9_next_47 : decode cX9_next 47 = .ok (.aload_n 0, 1) := by decide +kernel
theorem dX9_next_48 : decode cX9_next 48 = .ok (.getfield 176, 3) := by decide +kernel
theorem dX9_next_51 : decode cX9_next 51 = .ok (.aload_n 0, 1) := by decide +kernel
theorem dX9_next_52 : decode cX9_next 52 = .ok (.getfield 168, 3) := by decide +kernel
theorem dX9_next_55 : decode cX9_next 55 = .ok (.if_icmp .ge 12, 3) := by decide +kernel
theorem dX9_next_58 : decode cX9_next 58 = .ok (.aload_n 0, 1) := by decide +kernel
theorem dX9_next_59 : decode cX9_next 59 = .ok (.getfield 176, 3) := by decide +kernel
theorem dX9_next_62 : decode cX9_next 62 = .ok (.iconst 1, 1) := by decide +kernel
theorem dX9_next_63 : decode cX9_next 63 = .ok (.iadd, 1) := by decide +kernel
theorem dX9_next_64 : decode cX9_next 64 = .ok (.goto 7, 3) := by decide +kernel
theorem dX9_next_67 : decode cX9_next 67 = .ok (.aload_n 0, 1) := by decide +kernel
theorem dX9_next_68 : decode cX9_next 68 = .ok (.getfield 176, 3) := by decide +kernel
theorem dX9_next_71 : decode cX9_next 71 = .ok (.putfield 173, 3) := by decide +kernel
theorem dX9_next_74 : decode cX9_next 74 = .ok (.aload_n 0, 1) := by decide +kernel
theorem dX9_next_75 : decode cX9_next 75 = .ok (.aload_n 0, 1) := by decide +kernel
theorem dX9_next_76 : decode cX9_next 76 = .ok (.getfield 176, 3) := by decide +kernel
theorem dX9_next_79 : decode cX9_next 79 = .ok (.invokevirtual 179, 3) := by decide +kernel
theorem dX9_next_82 : decode cX9_next 82 = .ok (.istore_n 1, 1) := by decide +kernel
theorem dX9_next_83 : decode cX9_next 83 = .ok (.aload_n 0, 1) := by decide +kernel
theorem dX9_next_84 : decode cX9_next 84 = .ok (.aload_n 0, 1) := by decide +kernel
theorem dX9_next_85 : decode cX9_next 85 = .ok (.getfield 176, 3) := by decide +kernel
theorem dX9_next_88 : decode cX9_next 88 = .ok (.invokevirtual 182, 3) := by decide +kernel
theorem dX9_next_91 : decode cX9_next 91 = .ok (.istore_n 2, 1) := by decide +kernel
theorem dX9_next_92 : decode cX9_next 92 = .ok (.iload_n 1, 1) := by decide +kernel
theorem dX9_next_93 : decode cX9_next 93 = .ok (.ifCond .eq 14, 3) := by decide +kernel
theorem dX9_next_96 : decode cX9_next 96 = .ok (.aload_n 0, 1) := by decide +kernel
theorem dX9_next_97 : decode cX9_next 97 = .ok (.aload_n 0, 1) := by decide +kernel
theorem dX9_next_98 : decode cX9_next 98 = .ok (.getfield 173, 3) := by decide +kernel
theorem dX9_next_101 : decode cX9_next 101 = .ok (.invokevirtual 179, 3) := by decide +kernel
theorem dX9_next_104 : decode cX9_next 104 = .ok (.ifCond .ne 18, 3) := by decide +kernel
theorem dX9_next_107 : decode cX9_next 107 = .ok (.iload_n 2, 1) := by decide +kernel
theorem dX9_next_108 : decode cX9_next 108 = .ok (.ifCond .eq 27, 3) := by decide +kernel
theorem dX9_next_111 : decode cX9_next 111 = .ok (.aload_n 0, 1) := by decide +kernel
theorem dX9_next_112 : decode cX9_next 112 = .ok (.aload_n 0, 1) := by decide +kernel
theorem dX9_next_113 : decode cX9_next 113 = .ok (.getfield 173, 3) := by decide +kernel
theorem dX9_next_116 : decode cX9_next 116 = .ok (.invokevirtual 182, 3) := by decide +kernel
theorem dX9_next_119 : decode cX9_next 119 = .ok (.ifCond .eq 16, 3) := by decide +kernel
theorem dX9_next_122 : decode cX9_next 122 = .ok (.aload_n 0, 1) := by decide +kernel
theorem dX9_next_123 : decode cX9_next 123 = .ok (.dup, 1) := by decide +kernel
theorem dX9_next_124 : decode cX9_next 124 = .ok (.getfield 173, 3) := by decide +kernel
theorem dX9_next_127 : decode cX9_next 127 = .ok (.iconst 1, 1) := by decide +kernel
theorem dX9_next_128 : decode cX9_next 128 = .ok (.iadd, 1) := by decide +kernel
theorem dX9_next_129 : decode cX9_next 129 = .ok (.putfield 173, 3) := by decide +kernel
theorem dX9_next_132 : decode cX9_next 132 = .ok (.goto (-40), 3) := by decide +kernel
theorem dX9_next_135 : decode cX9_next 135 = .ok (.return_, 1) := by decide +kernel
theorem dX9_isWord_0 : decode cX9_isWord 0 = .ok (.aload_n 0, 1) := by decide +kernel
theorem dX9_isWord_1 : decode cX9_isWord 1 = .ok (.getfield 173, 3) := by decide +kernel
theorem dX9_isWord_4 : decode cX9_isWord 4 = .ok (.aload_n 0, 1) := by decide +kernel
theorem dX9_isWord_5 : decode cX9_isWord 5 = .ok (.getfield 176, 3) := by decide +kernel
theorem dX9_isWord_8 : decode cX9_isWord 8 = .ok (.isub, 1) := by decide +kernel
theorem dX9_isWord_9 : decode cX9_isWord 9 = .ok (.iload_n 3, 1) := by decide +kernel
theorem dX9_isWord_10 : decode cX9_isWord 10 = .ok (.if_icmp .ne 7, 3) := by decide +kernel
theorem dX9_isWord_13 : decode cX9_isWord 13 = .ok (.iconst 1, 1) := by decide +kernel
theorem dX9_isWord_14 : decode cX9_isWord 14 = .ok (.goto 4, 3) := by decide +kernel
theorem dX9_isWord_17 : decode cX9_isWord 17 = .ok (.iconst 0, 1) := by decide +kernel
theorem dX9_isWord_18 : decode cX9_isWord 18 = .ok (.istore 4, 2) := by decide +kernel
theorem dX9_isWord_20 : decode cX9_isWord 20 = .ok (.iconst 0, 1) := by decide +kernel
theorem dX9_isWord_21 : decode cX9_isWord 21 = .ok (.istore 5, 2) := by decide +kernel
theorem dX9_isWord_23 : decode cX9_isWord 23 = .ok (.iload 5, 2) := by decide +kernel
theorem dX9_isWord_25 : decode cX9_isWord 25 = .ok (.iload_n 3, 1) := by decide +kernel
theorem dX9_isWord_26 : decode cX9_isWord 26 = .ok (.if_icmp .ge 52, 3) := by decide +kernel
theorem dX9_isWord_29 : decode cX9_isWord 29 = .ok (.iload 4, 2) := by decide +kernel
theorem dX9_isWord_31 : decode cX9_isWord 31 = .ok (.ifCond .eq 47, 3) := by decide +kernel
theorem dX9_isWord_34 : decode cX9_isWord 34 = .ok (.aload_n 0, 1) := by decide +kernel
theorem dX9_isWord_35 : decode cX9_isWord 35 = .ok (.getfield 83, 3) := by decide +kernel
theorem dX9_isWord_38 : decode cX9_isWord 38 = .ok (.aload_n 0, 1) := by decide +kernel
theorem dX9_isWord_39 : decode cX9_isWord 39 = .ok (.getfield 176, 3) := by decide +kernel
theorem dX9_isWord_42 : decode cX9_isWord 42 = .ok (.iload 5, 2) := by decide +kernel
theorem dX9_isWord_44 : decode cX9_isWord 44 = .ok (.iadd, 1) := by decide +kernel
theorem dX9_isWord_45 : decode cX9_isWord 45 = .ok (.iaload, 1) := by decide +kernel
theorem dX9_isWord_46 : decode cX9_isWord 46 = .ok (.lload_n 1, 1) := by decide +kernel
theorem dX9_isWord_47 : decode cX9_isWord 47 = .ok (.bipush 8, 2) := by decide +kernel
theorem dX9_isWord_49 : decode cX9_isWord 49 = .ok (.iload_n 3, 1) := by decide +kernel
theorem dX9_isWord_50 : decode cX9_isWord 50 = .ok (.iconst 1, 1) := by decide +kernel
theorem dX9_isWord_51 : decode cX9_isWord 51 = .ok (.isub, 1) := by decide +kernel
theorem dX9_isWord_52 : decode cX9_isWord 52 = .ok (.iload 5, 2) := by decide +kernel
theorem dX9_isWord_54 : decode cX9_isWord 54 = .ok (.isub, 1) := by decide +kernel
theorem dX9_isWord_55 : decode cX9_isWord 55 = .ok (.imul, 1) := by decide +kernel
theorem dX9_isWord_56 : decode cX9_isWord 56 = .ok (.lshr, 1) := by decide +kernel
theorem dX9_isWord_57 : decode cX9_isWord 57 = .ok (.ldc2_w 171, 3) := by decide +kernel
theorem dX9_isWord_60 : decode cX9_isWord 60 = .ok (.land, 1) := by decide +kernel
theorem dX9_isWord_61 : decode cX9_isWord 61 = .ok (.l2i, 1) := by decide +kernel
theorem dX9_isWord_62 : decode cX9_isWord 62 = .ok (.if_icmp .ne 7, 3) := by decide +kernel
theorem dX9_isWord_65 : decode cX9_isWord 65 = .ok (.iconst 1, 1) := by decide +kernel
theorem dX9_isWord_66 : decode cX9_isWord 66 = .ok (.goto 4, 3) := by decide +kernel
theorem dX9_isWord_69 : decode cX9_isWord 69 = .ok (.iconst 0, 1) := by decide +kernel
theorem dX9_isWord_70 : decode cX9_isWord 70 = .ok (.istore 4, 2) := by decide +kernel
theorem dX9_isWord_72 : decode cX9_isWord 72 = .ok (.iinc 5 1, 3) := by decide +kernel
theorem dX9_isWord_75 : decode cX9_isWord 75 = .ok (.goto (-52), 3) := by decide +kernel
theorem dX9_isWord_78 : decode cX9_isWord 78 = .ok (.iload 4, 2) := by decide +kernel
theorem dX9_isWord_80 : decode cX9_isWord 80 = .ok (.ireturn, 1) := by decide +kernel
theorem dX9_bad_0 : decode cX9_bad 0 = .ok (.aload_n 0, 1) := by decide +kernel
theorem dX9_bad_1 : decode cX9_bad 1 = .ok (.aload_n 0, 1) := by decide +kernel
theorem dX9_bad_2 : decode cX9_bad 2 = .ok (.getfield 185, 3) := by decide +kernel
theorem dX9_bad_5 : decode cX9_bad 5 = .ok (.ifCond .ge 10, 3) := by decide +kernel
theorem dX9_bad_8 : decode cX9_bad 8 = .ok (.aload_n 0, 1) := by decide +kernel
theorem dX9_bad_9 : decode cX9_bad 9 = .ok (.getfield 176, 3) := by decide +kernel
theorem dX9_bad_12 : decode cX9_bad 12 = .ok (.goto 7, 3) := by decide +kernel
theorem dX9_bad_15 : decode cX9_bad 15 = .ok (.aload_n 0, 1) := by decide +kernel
theorem dX9_bad_16 : decode cX9_bad 16 = .ok (.getfield 185, 3) := by decide +kernel
theorem dX9_bad_19 : decode cX9_bad 19 = .ok (.putfield 185, 3) := by decide +kernel
theorem dX9_bad_22 : decode cX9_bad 22 = .ok (.return_, 1) := by decide +kernel
theorem dX9_word_0 : decode cX9_word 0 = .ok (.aload_n 0, 1) := by decide +kernel
theorem dX9_word_1 : decode cX9_word 1 = .ok (.lload_n 1, 1) := by decide +kernel
theorem dX9_word_2 : decode cX9_word 2 = .ok (.iload_n 3, 1) := by decide +kernel
theorem dX9_word_3 : decode cX9_word 3 = .ok (.invokevirtual 188, 3) := by decide +kernel
theorem dX9_word_6 : decode cX9_word 6 = .ok (.ifCond .ne 7, 3) := by decide +kernel
theorem dX9_word_9 : decode cX9_word 9 = .ok (.aload_n 0, 1) := by decide +kernel
theorem dX9_word_10 : decode cX9_word 10 = .ok (.invokevirtual 192, 3) := by decide +kernel
theorem dX9_word_13 : decode cX9_word 13 = .ok (.aload_n 0, 1) := by decide +kernel
theorem dX9_word_14 : decode cX9_word 14 = .ok (.invokevirtual 195, 3) := by decide +kernel
theorem dX9_word_17 : decode cX9_word 17 = .ok (.return_, 1) := by decide +kernel
theorem dX9_sort_0 : decode cX9_sort 0 = .ok (.aload_n 0, 1) := by decide +kernel
theorem dX9_sort_1 : decode cX9_sort 1 = .ok (.ldc2_w 198, 3) := by decide +kernel
theorem dX9_sort_4 : decode cX9_sort 4 = .ok (.iconst 4, 1) := by decide +kernel
theorem dX9_sort_5 : decode cX9_sort 5 = .ok (.invokevirtual 188, 3) := by decide +kernel
theorem dX9_sort_8 : decode cX9_sort 8 = .ok (.ifCond .eq 7, 3) := by decide +kernel
theorem dX9_sort_11 : decode cX9_sort 11 = .ok (.iconst 0, 1) := by decide +kernel
theorem dX9_sort_12 : decode cX9_sort 12 = .ok (.goto 35, 3) := by decide +kernel
theorem dX9_sort_15 : decode cX9_sort 15 = .ok (.aload_n 0, 1) := by decide +kernel
theorem dX9_sort_16 : decode cX9_sort 16 = .ok (.ldc2_w 200, 3) := by decide +kernel
theorem dX9_sort_19 : decode cX9_sort 19 = .ok (.iconst 3, 1) := by decide +kernel
theorem dX9_sort_20 : decode cX9_sort 20 = .ok (.invokevirtual 188, 3) := by decide +kernel
theorem dX9_sort_23 : decode cX9_sort 23 = .ok (.ifCond .eq 7, 3) := by decide +kernel
theorem dX9_sort_26 : decode cX9_sort 26 = .ok (.iconst 1, 1) := by decide +kernel
theorem dX9_sort_27 : decode cX9_sort 27 = .ok (.goto 20, 3) := by decide +kernel
theorem dX9_sort_30 : decode cX9_sort 30 = .ok (.aload_n 0, 1) := by decide +kernel
theorem dX9_sort_31 : decode cX9_sort 31 = .ok (.ldc2_w 202, 3) := by decide +kernel
theorem dX9_sort_34 : decode cX9_sort 34 = .ok (.bipush 6, 2) := by decide +kernel
theorem dX9_sort_36 : decode cX9_sort 36 = .ok (.invokevirtual 188, 3) := by decide +kernel
theorem dX9_sort_39 : decode cX9_sort 39 = .ok (.ifCond .eq 7, 3) := by decide +kernel
theorem dX9_sort_42 : decode cX9_sort 42 = .ok (.iconst 2, 1) := by decide +kernel
theorem dX9_sort_43 : decode cX9_sort 43 = .ok (.goto 4, 3) := by decide +kernel
theorem dX9_sort_46 : decode cX9_sort 46 = .ok (.iconst (-1), 1) := by decide +kernel
theorem dX9_sort_47 : decode cX9_sort 47 = .ok (.istore_n 1, 1) := by decide +kernel
theorem dX9_sort_48 : decode cX9_sort 48 = .ok (.iload_n 1, 1) := by decide +kernel
theorem dX9_sort_49 : decode cX9_sort 49 = .ok (.ifCond .ge 7, 3) := by decide +kernel
theorem dX9_sort_52 : decode cX9_sort 52 = .ok (.aload_n 0, 1) := by decide +kernel
theorem dX9_sort_53 : decode cX9_sort 53 = .ok (.invokevirtual 192, 3) := by decide +kernel
theorem dX9_sort_56 : decode cX9_sort 56 = .ok (.aload_n 0, 1) := by decide +kernel
theorem dX9_sort_57 : decode cX9_sort 57 = .ok (.invokevirtual 195, 3) := by decide +kernel
theorem dX9_sort_60 : decode cX9_sort 60 = .ok (.iload_n 1, 1) := by decide +kernel
theorem dX9_sort_61 : decode cX9_sort 61 = .ok (.ireturn, 1) := by decide +kernel
theorem dX9_hazard_0 : decode cX9_hazard 0 = .ok (.aload_n 0, 1) := by decide +kernel
theorem dX9_hazard_1 : decode cX9_hazard 1 = .ok (.ldc2_w 204, 3) := by decide +kernel
theorem dX9_hazard_4 : decode cX9_hazard 4 = .ok (.iconst 3, 1) := by decide +kernel
theorem dX9_hazard_5 : decode cX9_hazard 5 = .ok (.invokevirtual 188, 3) := by decide +kernel
theorem dX9_hazard_8 : decode cX9_hazard 8 = .ok (.ifCond .eq 7, 3) := by decide +kernel
theorem dX9_hazard_11 : decode cX9_hazard 11 = .ok (.iconst 0, 1) := by decide +kernel
theorem dX9_hazard_12 : decode cX9_hazard 12 = .ok (.goto 34, 3) := by decide +kernel
theorem dX9_hazard_15 : decode cX9_hazard 15 = .ok (.aload_n 0, 1) := by decide +kernel
theorem dX9_hazard_16 : decode cX9_hazard 16 = .ok (.ldc2_w 206, 3) := by decide +kernel
theorem dX9_hazard_19 : decode cX9_hazard 19 = .ok (.iconst 5, 1) := by decide +kernel
theorem dX9_hazard_20 : decode cX9_hazard 20 = .ok (.invokevirtual 188, 3) := by decide +kernel
theorem dX9_hazard_23 : decode cX9_hazard 23 = .ok (.ifCond .eq 7, 3) := by decide +kernel
theorem dX9_hazard_26 : decode cX9_hazard 26 = .ok (.iconst 1, 1) := by decide +kernel
theorem dX9_hazard_27 : decode cX9_hazard 27 = .ok (.goto 19, 3) := by decide +kernel
theorem dX9_hazard_30 : decode cX9_hazard 30 = .ok (.aload_n 0, 1) := by decide +kernel
theorem dX9_hazard_31 : decode cX9_hazard 31 = .ok (.ldc2_w 208, 3) := by decide +kernel
theorem dX9_hazard_34 : decode cX9_hazard 34 = .ok (.iconst 5, 1) := by decide +kernel
theorem dX9_hazard_35 : decode cX9_hazard 35 = .ok (.invokevirtual 188, 3) := by decide +kernel
theorem dX9_hazard_38 : decode cX9_hazard 38 = .ok (.ifCond .eq 7, 3) := by decide +kernel
theorem dX9_hazard_41 : decode cX9_hazard 41 = .ok (.iconst 2, 1) := by decide +kernel
theorem dX9_hazard_42 : decode cX9_hazard 42 = .ok (.goto 4, 3) := by decide +kernel
theorem dX9_hazard_45 : decode cX9_hazard 45 = .ok (.iconst (-1), 1) := by decide +kernel
theorem dX9_hazard_46 : decode cX9_hazard 46 = .ok (.istore_n 1, 1) := by decide +kernel
theorem dX9_hazard_47 : decode cX9_hazard 47 = .ok (.iload_n 1, 1) := by decide +kernel
theorem dX9_hazard_48 : decode cX9_hazard 48 = .ok (.ifCond .ge 7, 3) := by decide +kernel
theorem dX9_hazard_51 : decode cX9_hazard 51 = .ok (.aload_n 0, 1) := by decide +kernel
theorem dX9_hazard_52 : decode cX9_hazard 52 = .ok (.invokevirtual 192, 3) := by decide +kernel
theorem dX9_hazard_55 : decode cX9_hazard 55 = .ok (.aload_n 0, 1) := by decide +kernel
theorem dX9_hazard_56 : decode cX9_hazard 56 = .ok (.invokevirtual 195, 3) := by decide +kernel
theorem dX9_hazard_59 : decode cX9_hazard 59 = .ok (.iload_n 1, 1) := by decide +kernel
theorem dX9_hazard_60 : decode cX9_hazard 60 = .ok (.ireturn, 1) := by decide +kernel
theorem dX9_number_0 : decode cX9_number 0 = .ok (.iconst 0, 1) := by decide +kernel
theorem dX9_number_1 : decode cX9_number 1 = .ok (.istore_n 3, 1) := by decide +kernel
theorem dX9_number_2 : decode cX9_number 2 = .ok (.aload_n 0, 1) := by decide +kernel
theorem dX9_number_3 : decode cX9_number 3 = .ok (.aload_n 0, 1) := by decide +kernel
theorem dX9_number_4 : decode cX9_number 4 = .ok (.getfield 176, 3) := by decide +kernel
theorem dX9_number_7 : decode cX9_number 7 = .ok (.invokevirtual 182, 3) := by decide +kernel
theorem dX9_number_10 : decode cX9_number 10 = .ok (.ifCond .eq 20, 3) := by decide +kernel
theorem dX9_number_13 : decode cX9_number 13 = .ok (.aload_n 0, 1) := by decide +kernel
theorem dX9_number_14 : decode cX9_number 14 = .ok (.getfield 173, 3) := by decide +kernel
theorem dX9_number_17 : decode cX9_number 17 = .ok (.aload_n 0, 1) := by decide +kernel
theorem dX9_number_18 : decode cX9_number 18 = .ok (.getfield 176, 3) := by decide +kernel
theorem dX9_number_21 : decode cX9_number 21 = .ok (.isub, 1) := by decide +kernel
theorem dX9_number_22 : decode cX9_number 22 = .ok (.iconst 3, 1) := by decide +kernel
theorem dX9_number_23 : decode cX9_number 23 = .ok (.if_icmp .gt 7, 3) := by decide +kernel
theorem dX9_number_26 : decode cX9_number 26 = .ok (.iconst 1, 1) := by decide +kernel
theorem dX9_number_27 : decode cX9_number 27 = .ok (.goto 4, 3) := by decide +kernel
theorem dX9_number_30 : decode cX9_number 30 = .ok (.iconst 0, 1) := by decide +kernel
theorem dX9_number_31 : decode cX9_number 31 = .ok (.istore 4, 2) := by decide +kernel
theorem dX9_number_33 : decode cX9_number 33 = .ok (.aload_n 0, 1) := by decide +kernel
theorem dX9_number_34 : decode cX9_number 34 = .ok (.getfield 176, 3) := by decide +kernel
theorem dX9_number_37 : decode cX9_number 37 = .ok (.istore 5, 2) := by decide +kernel
theorem dX9_number_39 : decode cX9_number 39 = .ok (.iload 5, 2) := by decide +kernel
theorem dX9_number_41 : decode cX9_number 41 = .ok (.aload_n 0, 1) := by decide +kernel
theorem dX9_number_42 : decode cX9_number 42 = .ok (.getfield 173, 3) := by decide +kernel
theorem dX9_number_45 : decode cX9_number 45 = .ok (.if_icmp .ge 30, 3) := by decide +kernel
theorem dX9_number_48 : decode cX9_number 48 = .ok (.iload 4, 2) := by decide +kernel
theorem dX9_number_50 : decode cX9_number 50 = .ok (.ifCond .eq 25, 3) := by decide +kernel
theorem dX9_number_53 : decode cX9_number 53 = .ok (.bipush 10, 2) := by decide +kernel
theorem dX9_number_55 : decode cX9_number 55 = .ok (.iload_n 3, 1) := by decide +kernel
theorem dX9_number_56 : decode cX9_number 56 = .ok (.imul, 1) := by decide +kernel
theorem dX9_number_57 : decode cX9_number 57 = .ok (.aload_n 0, 1) := by decide +kernel
theorem dX9_number_58 : decode cX9_number 58 = .ok (.getfield 83, 3) := by decide +kernel
theorem dX9_number_61 : decode cX9_number 61 = .ok (.iload 5, 2) := by decide +kernel
theorem dX9_number_63 : decode cX9_number 63 = .ok (.iaload, 1) := by decide +kernel
theorem dX9_number_64 : decode cX9_number 64 = .ok (.iadd, 1) := by decide +kernel
theorem dX9_number_65 : decode cX9_number 65 = .ok (.bipush 48, 2) := by decide +kernel
theorem dX9_number_67 : decode cX9_number 67 = .ok (.isub, 1) := by decide +kernel
theorem dX9_number_68 : decode cX9_number 68 = .ok (.istore_n 3, 1) := by decide +kernel
theorem dX9_number_69 : decode cX9_number 69 = .ok (.iinc 5 1, 3) := by decide +kernel
theorem dX9_number_72 : decode cX9_number 72 = .ok (.goto (-33), 3) := by decide +kernel
theorem dX9_number_75 : decode cX9_number 75 = .ok (.iload 4, 2) := by decide +kernel
theorem dX9_number_77 : decode cX9_number 77 = .ok (.ifCond .eq 12, 3) := by decide +kernel
theorem dX9_number_80 : decode cX9_number 80 = .ok (.iload_n 3, 1) := by decide +kernel
theorem dX9_number_81 : decode cX9_number 81 = .ok (.iload_n 1, 1) := by decide +kernel
theorem dX9_number_82 : decode cX9_number 82 = .ok (.iload_n 2, 1) := by decide +kernel
theorem dX9_number_83 : decode cX9_number 83 = .ok (.invokestatic 105, 3) := by decide +kernel
theorem dX9_number_86 : decode cX9_number 86 = .ok (.ifCond .ne 7, 3) := by decide +kernel
theorem dX9_number_89 : decode cX9_number 89 = .ok (.aload_n 0, 1) := by decide +kernel
theorem dX9_number_90 : decode cX9_number 90 = .ok (.invokevirtual 192, 3) := by decide +kernel
theorem dX9_number_93 : decode cX9_number 93 = .ok (.aload_n 0, 1) := by decide +kernel
theorem dX9_number_94 : decode cX9_number 94 = .ok (.invokevirtual 195, 3) := by decide +kernel
theorem dX9_number_97 : decode cX9_number 97 = .ok (.iload_n 3, 1) := by decide +kernel
theorem dX9_number_98 : decode cX9_number 98 = .ok (.ireturn, 1) := by decide +kernel
theorem dX9_kind_0 : decode cX9_kind 0 = .ok (.aload_n 0, 1) := by decide +kernel
theorem dX9_kind_1 : decode cX9_kind 1 = .ok (.ldc2_w 210, 3) := by decide +kernel
theorem dX9_kind_4 : decode cX9_kind 4 = .ok (.iconst 4, 1) := by decide +kernel
theorem dX9_kind_5 : decode cX9_kind 5 = .ok (.invokevirtual 188, 3) := by decide +kernel
theorem dX9_kind_8 : decode cX9_kind 8 = .ok (.ifCond .eq 5, 3) := by decide +kernel
theorem dX9_kind_11 : decode cX9_kind 11 = .ok (.iconst 0, 1) := by decide +kernel
theorem dX9_kind_12 : decode cX9_kind 12 = .ok (.ireturn, 1) := by decide +kernel
theorem dX9_kind_13 : decode cX9_kind 13 = .ok (.aload_n 0, 1) := by decide +kernel
theorem dX9_kind_14 : decode cX9_kind 14 = .ok (.ldc2_w 212, 3) := by decide +kernel
theorem dX9_kind_17 : decode cX9_kind 17 = .ok (.iconst 3, 1) := by decide +kernel
theorem dX9_kind_18 : decode cX9_kind 18 = .ok (.invokevirtual 188, 3) := by decide +kernel
theorem dX9_kind_21 : decode cX9_kind 21 = .ok (.ifCond .eq 5, 3) := by decide +kernel
theorem dX9_kind_24 : decode cX9_kind 24 = .ok (.iconst 1, 1) := by decide +kernel
theorem dX9_kind_25 : decode cX9_kind 25 = .ok (.ireturn, 1) := by decide +kernel
theorem dX9_kind_26 : decode cX9_kind 26 = .ok (.aload_n 0, 1) := by decide +kernel
theorem dX9_kind_27 : decode cX9_kind 27 = .ok (.ldc2_w 214, 3) := by decide +kernel
theorem dX9_kind_30 : decode cX9_kind 30 = .ok (.bipush 6, 2) := by decide +kernel
theorem dX9_kind_32 : decode cX9_kind 32 = .ok (.invokevirtual 188, 3) := by decide +kernel
theorem dX9_kind_35 : decode cX9_kind 35 = .ok (.ifCond .eq 5, 3) := by decide +kernel
theorem dX9_kind_38 : decode cX9_kind 38 = .ok (.iconst 2, 1) := by decide +kernel
theorem dX9_kind_39 : decode cX9_kind 39 = .ok (.ireturn, 1) := by decide +kernel
theorem dX9_kind_40 : decode cX9_kind 40 = .ok (.aload_n 0, 1) := by decide +kernel
theorem dX9_kind_41 : decode cX9_kind 41 = .ok (.ldc2_w 216, 3) := by decide +kernel
theorem dX9_kind_44 : decode cX9_kind 44 = .ok (.iconst 3, 1) := by decide +kernel
theorem dX9_kind_45 : decode cX9_kind 45 = .ok (.invokevirtual 188, 3) := by decide +kernel
theorem dX9_kind_48 : decode cX9_kind 48 = .ok (.ifCond .eq 5, 3) := by decide +kernel
theorem dX9_kind_51 : decode cX9_kind 51 = .ok (.iconst 3, 1) := by decide +kernel
theorem dX9_kind_52 : decode cX9_kind 52 = .ok (.ireturn, 1) := by decide +kernel
theorem dX9_kind_53 : decode cX9_kind 53 = .ok (.aload_n 0, 1) := by decide +kernel
theorem dX9_kind_54 : decode cX9_kind 54 = .ok (.ldc2_w 218, 3) := by decide +kernel
theorem dX9_kind_57 : decode cX9_kind 57 = .ok (.iconst 5, 1) := by decide +kernel
theorem dX9_kind_58 : decode cX9_kind 58 = .ok (.invokevirtual 188, 3) := by decide +kernel
theorem dX9_kind_61 : decode cX9_kind 61 = .ok (.ifCond .eq 5, 3) := by decide +kernel
theorem dX9_kind_64 : decode cX9_kind 64 = .ok (.iconst 4, 1) := by decide +kernel
theorem dX9_kind_65 : decode cX9_kind 65 = .ok (.ireturn, 1) := by decide +kernel
theorem dX9_kind_66 : decode cX9_kind 66 = .ok (.aload_n 0, 1) := by decide +kernel
theorem dX9_kind_67 : decode cX9_kind 67 = .ok (.ldc2_w 220, 3) := by decide +kernel
theorem dX9_kind_70 : decode cX9_kind 70 = .ok (.iconst 5, 1) := by decide +kernel
theorem dX9_kind_71 : decode cX9_kind 71 = .ok (.invokevirtual 188, 3) := by decide +kernel
theorem dX9_kind_74 : decode cX9_kind 74 = .ok (.ifCond .eq 7, 3) := by decide +kernel
theorem dX9_kind_77 : decode cX9_kind 77 = .ok (.iconst 5, 1) := by decide +kernel
theorem dX9_kind_78 : decode cX9_kind 78 = .ok (.goto 4, 3) := by decide +kernel
theorem dX9_kind_81 : decode cX9_kind 81 = .ok (.iconst (-1), 1) := by decide +kernel
theorem dX9_kind_82 : decode cX9_kind 82 = .ok (.ireturn, 1) := by decide +kernel
theorem dX9_readRule_0 : decode cX9_readRule 0 = .ok (.aload_n 0, 1) := by decide +kernel
theorem dX9_readRule_1 : decode cX9_readRule 1 = .ok (.iconst 0, 1) := by decide +kernel
theorem dX9_readRule_2 : decode cX9_readRule 2 = .ok (.putfield 173, 3) := by decide +kernel
theorem dX9_readRule_5 : decode cX9_readRule 5 = .ok (.aload_n 0, 1) := by decide +kernel
theorem dX9_readRule_6 : decode cX9_readRule 6 = .ok (.iconst (-1), 1) := by decide +kernel
theorem dX9_readRule_7 : decode cX9_readRule 7 = .ok (.putfield 185, 3) := by decide +kernel
theorem dX9_readRule_10 : decode cX9_readRule 10 = .ok (.aload_n 0, 1) := by decide +kernel
theorem dX9_readRule_11 : decode cX9_readRule 11 = .ok (.bipush (-3), 2) := by decide +kernel
theorem dX9_readRule_13 : decode cX9_readRule 13 = .ok (.putfield 222, 3) := by decide +kernel
theorem dX9_readRule_16 : decode cX9_readRule 16 = .ok (.aload_n 0, 1) := by decide +kernel
theorem dX9_readRule_17 : decode cX9_readRule 17 = .ok (.bipush (-3), 2) := by decide +kernel
theorem dX9_readRule_19 : decode cX9_readRule 19 = .ok (.putfield 225, 3) := by decide +kernel
theorem dX9_readRule_22 : decode cX9_readRule 22 = .ok (.aload_n 0, 1) := by decide +kernel
theorem dX9_readRule_23 : decode cX9_readRule 23 = .ok (.invokevirtual 195, 3) := by decide +kernel
theorem dX9_readRule_26 : decode cX9_readRule 26 = .ok (.aload_n 0, 1) := by decide +kernel
theorem dX9_readRule_27 : decode cX9_readRule 27 = .ok (.aload_n 0, 1) := by decide +kernel
theorem dX9_readRule_28 : decode cX9_readRule 28 = .ok (.invokevirtual 228, 3) := by decide +kernel
theorem dX9_readRule_31 : decode cX9_readRule 31 = .ok (.putfield 231, 3) := by decide +kernel
theorem dX9_readRule_34 : decode cX9_readRule 34 = .ok (.aload_n 0, 1) := by decide +kernel
theorem dX9_readRule_35 : decode cX9_readRule 35 = .ok (.getfield 231, 3) := by decide +kernel
theorem dX9_readRule_38 : decode cX9_readRule 38 = .ok (.ifCond .ge 8, 3) := by decide +kernel
theorem dX9_readRule_41 : decode cX9_readRule 41 = .ok (.aload_n 0, 1) := by decide +kernel
theorem dX9_readRule_42 : decode cX9_readRule 42 = .ok (.invokevirtual 192, 3) := by decide +kernel
theorem dX9_readRule_45 : decode cX9_readRule 45 = .ok (.return_, 1) := by decide +kernel
theorem dX9_readRule_46 : decode cX9_readRule 46 = .ok (.aload_n 0, 1) := by decide +kernel
theorem dX9_readRule_47 : decode cX9_readRule 47 = .ok (.invokevirtual 195, 3) := by decide +kernel
theorem dX9_readRule_50 : decode cX9_readRule 50 = .ok (.aload_n 0, 1) := by decide +kernel
theorem dX9_readRule_51 : decode cX9_readRule 51 = .ok (.aload_n 0, 1) := by decide +kernel
theorem dX9_readRule_52 : decode cX9_readRule 52 = .ok (.getfield 231, 3) := by decide +kernel
theorem dX9_readRule_55 : decode cX9_readRule 55 = .ok (.iconst 2, 1) := by decide +kernel
theorem dX9_readRule_56 : decode cX9_readRule 56 = .ok (.if_icmp .ne 10, 3) := by decide +kernel
theorem dX9_readRule_59 : decode cX9_readRule 59 = .ok (.aload_n 0, 1) := by decide +kernel
theorem dX9_readRule_60 : decode cX9_readRule 60 = .ok (.invokevirtual 234, 3) := by decide +kernel
theorem dX9_readRule_63 : decode cX9_readRule 63 = .ok (.goto 7, 3) := by decide +kernel
theorem dX9_readRule_66 : decode cX9_readRule 66 = .ok (.aload_n 0, 1) := by decide +kernel
theorem dX9_readRule_67 : decode cX9_readRule 67 = .ok (.invokevirtual 237, 3) := by decide +kernel
theorem dX9_readRule_70 : decode cX9_readRule 70 = .ok (.putfield 240, 3) := by decide +kernel
theorem dX9_readRule_73 : decode cX9_readRule 73 = .ok (.aload_n 0, 1) := by decide +kernel
theorem dX9_readRule_74 : decode cX9_readRule 74 = .ok (.getfield 231, 3) := by decide +kernel
theorem dX9_readRule_77 : decode cX9_readRule 77 = .ok (.tableswitch 153 0 5 #[39, 61, 153, 92, 106, 139], 39) := by decide +kernel
theorem dX9_readRule_116 : decode cX9_readRule 116 = .ok (.aload_n 0, 1) := by decide +kernel
theorem dX9_readRule_117 : decode cX9_readRule 117 = .ok (.ldc2_w 243, 3) := by decide +kernel
theorem dX9_readRule_120 : decode cX9_readRule 120 = .ok (.iconst 4, 1) := by decide +kernel
theorem dX9_readRule_121 : decode cX9_readRule 121 = .ok (.invokevirtual 245, 3) := by decide +kernel
theorem dX9_readRule_124 : decode cX9_readRule 124 = .ok (.aload_n 0, 1) := by decide +kernel
theorem dX9_readRule_125 : decode cX9_readRule 125 = .ok (.aload_n 0, 1) := by decide +kernel
theorem dX9_readRule_126 : decode cX9_readRule 126 = .ok (.iconst 1, 1) := by decide +kernel
theorem dX9_readRule_127 : decode cX9_readRule 127 = .ok (.bipush 48, 2) := by decide +kernel
theorem dX9_readRule_129 : decode cX9_readRule 129 = .ok (.invokevirtual 249, 3) := by decide +kernel
theorem dX9_readRule_132 : decode cX9_readRule 132 = .ok (.putfield 222, 3) := by decide +kernel
theorem dX9_readRule_135 : decode cX9_readRule 135 = .ok (.goto 95, 3) := by decide +kernel
theorem dX9_readRule_138 : decode cX9_readRule 138 = .ok (.aload_n 0, 1) := by decide +kernel
theorem dX9_readRule_139 : decode cX9_readRule 139 = .ok (.aload_n 0, 1) := by decide +kernel
theorem dX9_readRule_140 : decode cX9_readRule 140 = .ok (.invokevirtual 237, 3) := by decide +kernel
theorem dX9_readRule_143 : decode cX9_readRule 143 = .ok (.putfield 222, 3) := by decide +kernel
theorem dX9_readRule_146 : decode cX9_readRule 146 = .ok (.aload_n 0, 1) := by decide +kernel
theorem dX9_readRule_147 : decode cX9_readRule 147 = .ok (.ldc2_w 252, 3) := by decide +kernel
theorem dX9_readRule_150 : decode cX9_readRule 150 = .ok (.bipush 6, 2) := by decide +kernel
theorem dX9_readRule_152 : decode cX9_readRule 152 = .ok (.invokevirtual 245, 3) := by decide +kernel
theorem dX9_readRule_155 : decode cX9_readRule 155 = .ok (.aload_n 0, 1) := by decide +kernel
theorem dX9_readRule_156 : decode cX9_readRule 156 = .ok (.aload_n 0, 1) := by decide +kernel
theorem dX9_readRule_157 : decode cX9_readRule 157 = .ok (.iconst 0, 1) := by decide +kernel
theorem dX9_readRule_158 : decode cX9_readRule 158 = .ok (.bipush 9, 2) := by decide +kernel
theorem dX9_readRule_160 : decode cX9_readRule 160 = .ok (.invokevirtual 249, 3) := by decide +kernel
theorem dX9_readRule_163 : decode cX9_readRule 163 = .ok (.putfield 225, 3) := by decide +kernel
theorem dX9_readRule_166 : decode cX9_readRule 166 = .ok (.goto 64, 3) := by decide +kernel
theorem dX9_readRule_169 : decode cX9_readRule 169 = .ok (.aload_n 0, 1) := by decide +kernel
theorem dX9_readRule_170 : decode cX9_readRule 170 = .ok (.aload_n 0, 1) := by decide +kernel
theorem dX9_readRule_171 : decode cX9_readRule 171 = .ok (.iconst 1, 1) := by decide +kernel
theorem dX9_readRule_172 : decode cX9_readRule 172 = .ok (.bipush 12, 2) := by decide +kernel
theorem dX9_readRule_174 : decode cX9_readRule 174 = .ok (.invokevirtual 249, 3) := by decide +kernel
theorem dX9_readRule_177 : decode cX9_readRule 177 = .ok (.putfield 222, 3) := by decide +kernel
theorem dX9_readRule_180 : decode cX9_readRule 180 = .ok (.goto 50, 3) := by decide +kernel
theorem dX9_readRule_183 : decode cX9_readRule 183 = .ok (.aload_n 0, 1) := by decide +kernel
theorem dX9_readRule_184 : decode cX9_readRule 184 = .ok (.aload_n 0, 1) := by decide +kernel
theorem dX9_readRule_185 : decode cX9_readRule 185 = .ok (.iconst 0, 1) := by decide +kernel
theorem dX9_readRule_186 : decode cX9_readRule 186 = .ok (.bipush 23, 2) := by decide +kernel
theorem dX9_readRule_188 : decode cX9_readRule 188 = .ok (.invokevirtual 249, 3) := by decide +kernel
theorem dX9_readRule_191 : decode cX9_readRule 191 = .ok (.putfield 222, 3) := by decide +kernel
theorem dX9_readRule_194 : decode cX9_readRule 194 = .ok (.aload_n 0, 1) := by decide +kernel
theorem dX9_readRule_195 : decode cX9_readRule 195 = .ok (.ldc2_w 254, 3) := by decide +kernel
theorem dX9_readRule_198 : decode cX9_readRule 198 = .ok (.iconst 2, 1) := by decide +kernel
theorem dX9_readRule_199 : decode cX9_readRule 199 = .ok (.invokevirtual 245, 3) := by decide +kernel
theorem dX9_readRule_202 : decode cX9_readRule 202 = .ok (.aload_n 0, 1) := by decide +kernel
theorem dX9_readRule_203 : decode cX9_readRule 203 = .ok (.aload_n 0, 1) := by decide +kernel
theorem dX9_readRule_204 : decode cX9_readRule 204 = .ok (.iconst 0, 1) := by decide +kernel
theorem dX9_readRule_205 : decode cX9_readRule 205 = .ok (.bipush 23, 2) := by decide +kernel
theorem dX9_readRule_207 : decode cX9_readRule 207 = .ok (.invokevirtual 249, 3) := by decide +kernel
theorem dX9_readRule_210 : decode cX9_readRule 210 = .ok (.putfield 225, 3) := by decide +kernel
theorem dX9_readRule_213 : decode cX9_readRule 213 = .ok (.goto 17, 3) := by decide +kernel
theorem dX9_readRule_216 : decode cX9_readRule 216 = .ok (.aload_n 0, 1) := by decide +kernel
theorem dX9_readRule_217 : decode cX9_readRule 217 = .ok (.aload_n 0, 1) := by decide +kernel
theorem dX9_readRule_218 : decode cX9_readRule 218 = .ok (.iconst 1, 1) := by decide +kernel
theorem dX9_readRule_219 : decode cX9_readRule 219 = .ok (.bipush 24, 2) := by decide +kernel
theorem dX9_readRule_221 : decode cX9_readRule 221 = .ok (.invokevirtual 249, 3) := by decide +kernel
theorem dX9_readRule_224 : decode cX9_readRule 224 = .ok (.putfield 222, 3) := by decide +kernel
theorem dX9_readRule_227 : decode cX9_readRule 227 = .ok (.goto 3, 3) := by decide +kernel
theorem dX9_readRule_230 : decode cX9_readRule 230 = .ok (.aload_n 0, 1) := by decide +kernel
theorem dX9_readRule_231 : decode cX9_readRule 231 = .ok (.getfield 176, 3) := by decide +kernel
theorem dX9_readRule_234 : decode cX9_readRule 234 = .ok (.aload_n 0, 1) := by decide +kernel
theorem dX9_readRule_235 : decode cX9_readRule 235 = .ok (.getfield 168, 3) := by decide +kernel
theorem dX9_readRule_238 : decode cX9_readRule 238 = .ok (.if_icmp .ge 7, 3) := by decide +kernel
theorem dX9_readRule_241 : decode cX9_readRule 241 = .ok (.aload_n 0, 1) := by decide +kernel
theorem dX9_readRule_242 : decode cX9_readRule 242 = .ok (.invokevirtual 192, 3) := by decide +kernel
theorem dX9_readRule_245 : decode cX9_readRule 245 = .ok (.return_, 1) := by decide +kernel
theorem dX9_rule_0 : decode cX9_rule 0 = .ok (.aload_n 0, 1) := by decide +kernel
theorem dX9_rule_1 : decode cX9_rule 1 = .ok (.invokevirtual 256, 3) := by decide +kernel
theorem dX9_rule_4 : decode cX9_rule 4 = .ok (.aload_n 0, 1) := by decide +kernel
theorem dX9_rule_5 : decode cX9_rule 5 = .ok (.iconst 0, 1) := by decide +kernel
theorem dX9_rule_6 : decode cX9_rule 6 = .ok (.putfield 168, 3) := by decide +kernel
theorem dX9_rule_9 : decode cX9_rule 9 = .ok (.aload_n 0, 1) := by decide +kernel
theorem dX9_rule_10 : decode cX9_rule 10 = .ok (.getfield 185, 3) := by decide +kernel
theorem dX9_rule_13 : decode cX9_rule 13 = .ok (.ifCond .lt 11, 3) := by decide +kernel
theorem dX9_rule_16 : decode cX9_rule 16 = .ok (.bipush (-100), 2) := by decide +kernel
theorem dX9_rule_18 : decode cX9_rule 18 = .ok (.aload_n 0, 1) := by decide +kernel
theorem dX9_rule_19 : decode cX9_rule 19 = .ok (.getfield 185, 3) := by decide +kernel
theorem dX9_rule_22 : decode cX9_rule 22 = .ok (.isub, 1) := by decide +kernel
theorem dX9_rule_23 : decode cX9_rule 23 = .ok (.ireturn, 1) := by decide +kernel
theorem dX9_rule_24 : decode cX9_rule 24 = .ok (.aload_n 0, 1) := by decide +kernel
theorem dX9_rule_25 : decode cX9_rule 25 = .ok (.getfield 140, 3) := by decide +kernel
theorem dX9_rule_28 : decode cX9_rule 28 = .ok (.bipush 12, 2) := by decide +kernel
theorem dX9_rule_30 : decode cX9_rule 30 = .ok (.if_icmp .ne 6, 3) := by decide +kernel
theorem dX9_rule_33 : decode cX9_rule 33 = .ok (.bipush (-2), 2) := by decide +kernel
theorem dX9_rule_35 : decode cX9_rule 35 = .ok (.ireturn, 1) := by decide +kernel
theorem dX9_rule_36 : decode cX9_rule 36 = .ok (.aload_n 0, 1) := by decide +kernel
theorem dX9_rule_37 : decode cX9_rule 37 = .ok (.getfield 29, 3) := by decide +kernel
theorem dX9_rule_40 : decode cX9_rule 40 = .ok (.aload_n 0, 1) := by decide +kernel
theorem dX9_rule_41 : decode cX9_rule 41 = .ok (.getfield 140, 3) := by decide +kernel
theorem dX9_rule_44 : decode cX9_rule 44 = .ok (.aload_n 0, 1) := by decide +kernel
theorem dX9_rule_45 : decode cX9_rule 45 = .ok (.getfield 231, 3) := by decide +kernel
theorem dX9_rule_48 : decode cX9_rule 48 = .ok (.iastore, 1) := by decide +kernel
theorem dX9_rule_49 : decode cX9_rule 49 = .ok (.aload_n 0, 1) := by decide +kernel
theorem dX9_rule_50 : decode cX9_rule 50 = .ok (.getfield 32, 3) := by decide +kernel
theorem dX9_rule_53 : decode cX9_rule 53 = .ok (.aload_n 0, 1) := by decide +kernel
theorem dX9_rule_54 : decode cX9_rule 54 = .ok (.getfield 140, 3) := by decide +kernel
theorem dX9_rule_57 : decode cX9_rule 57 = .ok (.aload_n 0, 1) := by decide +kernel
theorem dX9_rule_58 : decode cX9_rule 58 = .ok (.getfield 240, 3) := by decide +kernel
theorem dX9_rule_61 : decode cX9_rule 61 = .ok (.iastore, 1) := by decide +kernel
theorem dX9_rule_62 : decode cX9_rule 62 = .ok (.aload_n 0, 1) := by decide +kernel
theorem dX9_rule_63 : decode cX9_rule 63 = .ok (.getfield 35, 3) := by decide +kernel
theorem dX9_rule_66 : decode cX9_rule 66 = .ok (.aload_n 0, 1) := by decide +kernel
theorem dX9_rule_67 : decode cX9_rule 67 = .ok (.getfield 140, 3) := by decide +kernel
theorem dX9_rule_70 : decode cX9_rule 70 = .ok (.aload_n 0, 1) := by decide +kernel
theorem dX9_rule_71 : decode cX9_rule 71 = .ok (.getfield 222, 3) := by decide +kernel
theorem dX9_rule_74 : decode cX9_rule 74 = .ok (.iastore, 1) := by decide +kernel
theorem dX9_rule_75 : decode cX9_rule 75 = .ok (.aload_n 0, 1) := by decide +kernel
theorem dX9_rule_76 : decode cX9_rule 76 = .ok (.getfield 38, 3) := by decide +kernel
theorem dX9_rule_79 : decode cX9_rule 79 = .ok (.aload_n 0, 1) := by decide +kernel
theorem dX9_rule_80 : decode cX9_rule 80 = .ok (.getfield 140, 3) := by decide +kernel
theorem dX9_rule_83 : decode cX9_rule 83 = .ok (.aload_n 0, 1) := by decide +kernel
theorem dX9_rule_84 : decode cX9_rule 84 = .ok (.getfield 225, 3) := by decide +kernel
theorem dX9_rule_87 : decode cX9_rule 87 = .ok (.iastore, 1) := by decide +kernel
theorem dX9_rule_88 : decode cX9_rule 88 = .ok (.aload_n 0, 1) := by decide +kernel
theorem dX9_rule_89 : decode cX9_rule 89 = .ok (.getfield 41, 3) := by decide +kernel
theorem dX9_rule_92 : decode cX9_rule 92 = .ok (.aload_n 0, 1) := by decide +kernel
theorem dX9_rule_93 : decode cX9_rule 93 = .ok (.getfield 140, 3) := by decide +kernel
theorem dX9_rule_96 : decode cX9_rule 96 = .ok (.aload_n 0, 1) := by decide +kernel
theorem dX9_rule_97 : decode cX9_rule 97 = .ok (.getfield 119, 3) := by decide +kernel
theorem dX9_rule_100 : decode cX9_rule 100 = .ok (.iastore, 1) := by decide +kernel
theorem dX9_rule_101 : decode cX9_rule 101 = .ok (.aload_n 0, 1) := by decide +kernel
theorem dX9_rule_102 : decode cX9_rule 102 = .ok (.getfield 44, 3) := by decide +kernel
theorem dX9_rule_105 : decode cX9_rule 105 = .ok (.aload_n 0, 1) := by decide +kernel
theorem dX9_rule_106 : decode cX9_rule 106 = .ok (.getfield 140, 3) := by decide +kernel
theorem dX9_rule_109 : decode cX9_rule 109 = .ok (.iconst (-1), 1) := by decide +kernel
theorem dX9_rule_110 : decode cX9_rule 110 = .ok (.iastore, 1) := by decide +kernel
theorem dX9_rule_111 : decode cX9_rule 111 = .ok (.aload_n 0, 1) := by decide +kernel
theorem dX9_rule_112 : decode cX9_rule 112 = .ok (.dup, 1) := by decide +kernel
theorem dX9_rule_113 : decode cX9_rule 113 = .ok (.getfield 140, 3) := by decide +kernel
theorem dX9_rule_116 : decode cX9_rule 116 = .ok (.iconst 1, 1) := by decide +kernel
theorem dX9_rule_117 : decode cX9_rule 117 = .ok (.iadd, 1) := by decide +kernel
theorem dX9_rule_118 : decode cX9_rule 118 = .ok (.putfield 140, 3) := by decide +kernel
theorem dX9_rule_121 : decode cX9_rule 121 = .ok (.aload_n 0, 1) := by decide +kernel
theorem dX9_rule_122 : decode cX9_rule 122 = .ok (.getfield 140, 3) := by decide +kernel
theorem dX9_rule_125 : decode cX9_rule 125 = .ok (.iconst 1, 1) := by decide +kernel
theorem dX9_rule_126 : decode cX9_rule 126 = .ok (.isub, 1) := by decide +kernel
theorem dX9_rule_127 : decode cX9_rule 127 = .ok (.ireturn, 1) := by decide +kernel
theorem dX9_isRule_0 : decode cX9_isRule 0 = .ok (.iload_n 1, 1) := by decide +kernel
theorem dX9_isRule_1 : decode cX9_isRule 1 = .ok (.iconst 0, 1) := by decide +kernel
theorem dX9_isRule_2 : decode cX9_isRule 2 = .ok (.aload_n 0, 1) := by decide +kernel
theorem dX9_isRule_3 : decode cX9_isRule 3 = .ok (.getfield 140, 3) := by decide +kernel
theorem dX9_isRule_6 : decode cX9_isRule 6 = .ok (.iconst 1, 1) := by decide +kernel
theorem dX9_isRule_7 : decode cX9_isRule 7 = .ok (.isub, 1) := by decide +kernel
theorem dX9_isRule_8 : decode cX9_isRule 8 = .ok (.invokestatic 105, 3) := by decide +kernel
theorem dX9_isRule_11 : decode cX9_isRule 11 = .ok (.ireturn, 1) := by decide +kernel
theorem dX9_strike_0 : decode cX9_strike 0 = .ok (.aload_n 0, 1) := by decide +kernel
theorem dX9_strike_1 : decode cX9_strike 1 = .ok (.iload_n 1, 1) := by decide +kernel
theorem dX9_strike_2 : decode cX9_strike 2 = .ok (.invokevirtual 259, 3) := by decide +kernel
theorem dX9_strike_5 : decode cX9_strike 5 = .ok (.ifCond .ne 5, 3) := by decide +kernel
theorem dX9_strike_8 : decode cX9_strike 8 = .ok (.iconst (-1), 1) := by decide +kernel
theorem dX9_strike_9 : decode cX9_strike 9 = .ok (.ireturn, 1) := by decide +kernel
theorem dX9_strike_10 : decode cX9_strike 10 = .ok (.aload_n 0, 1) := by decide +kernel
theorem dX9_strike_11 : decode cX9_strike 11 = .ok (.getfield 44, 3) := by decide +kernel
theorem dX9_strike_14 : decode cX9_strike 14 = .ok (.iload_n 1, 1) := by decide +kernel
theorem dX9_strike_15 : decode cX9_strike 15 = .ok (.iaload, 1) := by decide +kernel
theorem dX9_strike_16 : decode cX9_strike 16 = .ok (.ifCond .lt 6, 3) := by decide +kernel
theorem dX9_strike_19 : decode cX9_strike 19 = .ok (.bipush (-4), 2) := by decide +kernel
theorem dX9_strike_21 : decode cX9_strike 21 = .ok (.ireturn, 1) := by decide +kernel
theorem dX9_strike_22 : decode cX9_strike 22 = .ok (.aload_n 0, 1) := by decide +kernel
theorem dX9_strike_23 : decode cX9_strike 23 = .ok (.getfield 44, 3) := by decide +kernel
theorem dX9_strike_26 : decode cX9_strike 26 = .ok (.iload_n 1, 1) := by decide +kernel
theorem dX9_strike_27 : decode cX9_strike 27 = .ok (.aload_n 0, 1) := by decide +kernel
theorem dX9_strike_28 : decode cX9_strike 28 = .ok (.getfield 119, 3) := by decide +kernel
theorem dX9_strike_31 : decode cX9_strike 31 = .ok (.iastore, 1) := by decide +kernel
theorem dX9_strike_32 : decode cX9_strike 32 = .ok (.iconst 1, 1) := by decide +kernel
theorem dX9_strike_33 : decode cX9_strike 33 = .ok (.ireturn, 1) := by decide +kernel
theorem dX9_ruleOf_0 : decode cX9_ruleOf 0 = .ok (.aload_n 0, 1) := by decide +kernel
theorem dX9_ruleOf_1 : decode cX9_ruleOf 1 = .ok (.iload_n 1, 1) := by decide +kernel
theorem dX9_ruleOf_2 : decode cX9_ruleOf 2 = .ok (.invokevirtual 259, 3) := by decide +kernel
theorem dX9_ruleOf_5 : decode cX9_ruleOf 5 = .ok (.ifCond .eq 12, 3) := by decide +kernel
theorem dX9_ruleOf_8 : decode cX9_ruleOf 8 = .ok (.iload_n 2, 1) := by decide +kernel
theorem dX9_ruleOf_9 : decode cX9_ruleOf 9 = .ok (.iconst 0, 1) := by decide +kernel
theorem dX9_ruleOf_10 : decode cX9_ruleOf 10 = .ok (.iconst 4, 1) := by decide +kernel
theorem dX9_ruleOf_11 : decode cX9_ruleOf 11 = .ok (.invokestatic 105, 3) := by decide +kernel
theorem dX9_ruleOf_14 : decode cX9_ruleOf 14 = .ok (.ifCond .ne 5, 3) := by decide +kernel
theorem dX9_ruleOf_17 : decode cX9_ruleOf 17 = .ok (.iconst (-1), 1) := by decide +kernel
theorem dX9_ruleOf_18 : decode cX9_ruleOf 18 = .ok (.ireturn, 1) := by decide +kernel
theorem dX9_ruleOf_19 : decode cX9_ruleOf 19 = .ok (.iload_n 2, 1) := by decide +kernel
theorem dX9_ruleOf_20 : decode cX9_ruleOf 20 = .ok (.tableswitch 60 0 3 #[32, 39, 46, 53], 32) := by decide +kernel
theorem dX9_ruleOf_52 : decode cX9_ruleOf 52 = .ok (.aload_n 0, 1) := by decide +kernel
theorem dX9_ruleOf_53 : decode cX9_ruleOf 53 = .ok (.getfield 29, 3) := by decide +kernel
theorem dX9_ruleOf_56 : decode cX9_ruleOf 56 = .ok (.iload_n 1, 1) := by decide +kernel
theorem dX9_ruleOf_57 : decode cX9_ruleOf 57 = .ok (.iaload, 1) := by decide +kernel
theorem dX9_ruleOf_58 : decode cX9_ruleOf 58 = .ok (.ireturn, 1) := by decide +kernel
theorem dX9_ruleOf_59 : decode cX9_ruleOf 59 = .ok (.aload_n 0, 1) := by decide +kernel
theorem dX9_ruleOf_60 : decode cX9_ruleOf 60 = .ok (.getfield 32, 3) := by decide +kernel
theorem dX9_ruleOf_63 : decode cX9_ruleOf 63 = .ok (.iload_n 1, 1) := by decide +kernel
theorem dX9_ruleOf_64 : decode cX9_ruleOf 64 = .ok (.iaload, 1) := by decide +kernel
theorem dX9_ruleOf_65 : decode cX9_ruleOf 65 = .ok (.ireturn, 1) := by decide +kernel
theorem dX9_ruleOf_66 : decode cX9_ruleOf 66 = .ok (.aload_n 0, 1) := by decide +kernel
theorem dX9_ruleOf_67 : decode cX9_ruleOf 67 = .ok (.getfield 35, 3) := by decide +kernel
theorem dX9_ruleOf_70 : decode cX9_ruleOf 70 = .ok (.iload_n 1, 1) := by decide +kernel
theorem dX9_ruleOf_71 : decode cX9_ruleOf 71 = .ok (.iaload, 1) := by decide +kernel
theorem dX9_ruleOf_72 : decode cX9_ruleOf 72 = .ok (.ireturn, 1) := by decide +kernel
theorem dX9_ruleOf_73 : decode cX9_ruleOf 73 = .ok (.aload_n 0, 1) := by decide +kernel
theorem dX9_ruleOf_74 : decode cX9_ruleOf 74 = .ok (.getfield 38, 3) := by decide +kernel
theorem dX9_ruleOf_77 : decode cX9_ruleOf 77 = .ok (.iload_n 1, 1) := by decide +kernel
theorem dX9_ruleOf_78 : decode cX9_ruleOf 78 = .ok (.iaload, 1) := by decide +kernel
theorem dX9_ruleOf_79 : decode cX9_ruleOf 79 = .ok (.ireturn, 1) := by decide +kernel
theorem dX9_ruleOf_80 : decode cX9_ruleOf 80 = .ok (.aload_n 0, 1) := by decide +kernel
theorem dX9_ruleOf_81 : decode cX9_ruleOf 81 = .ok (.iload_n 1, 1) := by decide +kernel
theorem dX9_ruleOf_82 : decode cX9_ruleOf 82 = .ok (.aload_n 0, 1) := by decide +kernel
theorem dX9_ruleOf_83 : decode cX9_ruleOf 83 = .ok (.getfield 119, 3) := by decide +kernel
theorem dX9_ruleOf_86 : decode cX9_ruleOf 86 = .ok (.invokevirtual 143, 3) := by decide +kernel
theorem dX9_ruleOf_89 : decode cX9_ruleOf 89 = .ok (.ifCond .eq 7, 3) := by decide +kernel
theorem dX9_ruleOf_92 : decode cX9_ruleOf 92 = .ok (.iconst 1, 1) := by decide +kernel
theorem dX9_ruleOf_93 : decode cX9_ruleOf 93 = .ok (.goto 4, 3) := by decide +kernel
theorem dX9_ruleOf_96 : decode cX9_ruleOf 96 = .ok (.iconst 0, 1) := by decide +kernel
theorem dX9_ruleOf_97 : decode cX9_ruleOf 97 = .ok (.ireturn, 1) := by decide +kernel
theorem dX9_ask_0 : decode cX9_ask 0 = .ok (.iload_n 1, 1) := by decide +kernel
theorem dX9_ask_1 : decode cX9_ask 1 = .ok (.invokestatic 116, 3) := by decide +kernel
theorem dX9_ask_4 : decode cX9_ask 4 = .ok (.ifCond .eq 25, 3) := by decide +kernel
theorem dX9_ask_7 : decode cX9_ask 7 = .ok (.iload_n 2, 1) := by decide +kernel
theorem dX9_ask_8 : decode cX9_ask 8 = .ok (.iconst 0, 1) := by decide +kernel
theorem dX9_ask_9 : decode cX9_ask 9 = .ok (.iconst 2, 1) := by decide +kernel
theorem dX9_ask_10 : decode cX9_ask 10 = .ok (.invokestatic 105, 3) := by decide +kernel
theorem dX9_ask_13 : decode cX9_ask 13 = .ok (.ifCond .eq 16, 3) := by decide +kernel
theorem dX9_ask_16 : decode cX9_ask 16 = .ok (.iload_n 3, 1) := by decide +kernel
theorem dX9_ask_17 : decode cX9_ask 17 = .ok (.ifCond .lt 12, 3) := by decide +kernel
theorem dX9_ask_20 : decode cX9_ask 20 = .ok (.iload_n 3, 1) := by decide +kernel
theorem dX9_ask_21 : decode cX9_ask 21 = .ok (.aload_n 0, 1) := by decide +kernel
theorem dX9_ask_22 : decode cX9_ask 22 = .ok (.getfield 101, 3) := by decide +kernel
theorem dX9_ask_25 : decode cX9_ask 25 = .ok (.ishr, 1) := by decide +kernel
theorem dX9_ask_26 : decode cX9_ask 26 = .ok (.ifCond .eq 5, 3) := by decide +kernel
theorem dX9_ask_29 : decode cX9_ask 29 = .ok (.iconst (-1), 1) := by decide +kernel
theorem dX9_ask_30 : decode cX9_ask 30 = .ok (.ireturn, 1) := by decide +kernel
theorem dX9_ask_31 : decode cX9_ask 31 = .ok (.iconst 0, 1) := by decide +kernel
theorem dX9_ask_32 : decode cX9_ask 32 = .ok (.istore 4, 2) := by decide +kernel
theorem dX9_ask_34 : decode cX9_ask 34 = .ok (.iload 4, 2) := by decide +kernel
theorem dX9_ask_36 : decode cX9_ask 36 = .ok (.aload_n 0, 1) := by decide +kernel
theorem dX9_ask_37 : decode cX9_ask 37 = .ok (.getfield 101, 3) := by decide +kernel
theorem dX9_ask_40 : decode cX9_ask 40 = .ok (.if_icmp .ge 31, 3) := by decide +kernel
theorem dX9_ask_43 : decode cX9_ask 43 = .ok (.iload_n 3, 1) := by decide +kernel
theorem dX9_ask_44 : decode cX9_ask 44 = .ok (.iload 4, 2) := by decide +kernel
theorem dX9_ask_46 : decode cX9_ask 46 = .ok (.invokestatic 125, 3) := by decide +kernel
theorem dX9_ask_49 : decode cX9_ask 49 = .ok (.ifCond .eq 16, 3) := by decide +kernel
theorem dX9_ask_52 : decode cX9_ask 52 = .ok (.aload_n 0, 1) := by decide +kernel
theorem dX9_ask_53 : decode cX9_ask 53 = .ok (.getfield 16, 3) := by decide +kernel
theorem dX9_ask_56 : decode cX9_ask 56 = .ok (.iload 4, 2) := by decide +kernel
theorem dX9_ask_58 : decode cX9_ask 58 = .ok (.iaload, 1) := by decide +kernel
theorem dX9_ask_59 : decode cX9_ask 59 = .ok (.iconst 2, 1) := by decide +kernel
theorem dX9_ask_60 : decode cX9_ask 60 = .ok (.if_icmp .ne 5, 3) := by decide +kernel
theorem dX9_ask_63 : decode cX9_ask 63 = .ok (.iconst (-1), 1) := by decide +kernel
theorem dX9_ask_64 : decode cX9_ask 64 = .ok (.ireturn, 1) := by decide +kernel
theorem dX9_ask_65 : decode cX9_ask 65 = .ok (.iinc 4 1, 3) := by decide +kernel
theorem dX9_ask_68 : decode cX9_ask 68 = .ok (.goto (-34), 3) := by decide +kernel
theorem dX9_ask_71 : decode cX9_ask 71 = .ok (.aload_n 0, 1) := by decide +kernel
theorem dX9_ask_72 : decode cX9_ask 72 = .ok (.getfield 113, 3) := by decide +kernel
theorem dX9_ask_75 : decode cX9_ask 75 = .ok (.bipush 7, 2) := by decide +kernel
theorem dX9_ask_77 : decode cX9_ask 77 = .ok (.if_icmp .ne 6, 3) := by decide +kernel
theorem dX9_ask_80 : decode cX9_ask 80 = .ok (.bipush (-2), 2) := by decide +kernel
theorem dX9_ask_82 : decode cX9_ask 82 = .ok (.ireturn, 1) := by decide +kernel
theorem dX9_ask_83 : decode cX9_ask 83 = .ok (.aload_n 0, 1) := by decide +kernel
theorem dX9_ask_84 : decode cX9_ask 84 = .ok (.getfield 53, 3) := by decide +kernel
theorem dX9_ask_87 : decode cX9_ask 87 = .ok (.aload_n 0, 1) := by decide +kernel
theorem dX9_ask_88 : decode cX9_ask 88 = .ok (.getfield 113, 3) := by decide +kernel
theorem dX9_ask_91 : decode cX9_ask 91 = .ok (.iload_n 1, 1) := by decide +kernel
theorem dX9_ask_92 : decode cX9_ask 92 = .ok (.iastore, 1) := by decide +kernel
theorem dX9_ask_93 : decode cX9_ask 93 = .ok (.aload_n 0, 1) := by decide +kernel
theorem dX9_ask_94 : decode cX9_ask 94 = .ok (.getfield 56, 3) := by decide +kernel
theorem dX9_ask_97 : decode cX9_ask 97 = .ok (.aload_n 0, 1) := by decide +kernel
theorem dX9_ask_98 : decode cX9_ask 98 = .ok (.getfield 113, 3) := by decide +kernel
theorem dX9_ask_101 : decode cX9_ask 101 = .ok (.iload_n 2, 1) := by decide +kernel
theorem dX9_ask_102 : decode cX9_ask 102 = .ok (.iastore, 1) := by decide +kernel
theorem dX9_ask_103 : decode cX9_ask 103 = .ok (.aload_n 0, 1) := by decide +kernel
theorem dX9_ask_104 : decode cX9_ask 104 = .ok (.getfield 59, 3) := by decide +kernel
theorem dX9_ask_107 : decode cX9_ask 107 = .ok (.aload_n 0, 1) := by decide +kernel
theorem dX9_ask_108 : decode cX9_ask 108 = .ok (.getfield 113, 3) := by decide +kernel
theorem dX9_ask_111 : decode cX9_ask 111 = .ok (.iload_n 3, 1) := by decide +kernel
theorem dX9_ask_112 : decode cX9_ask 112 = .ok (.iastore, 1) := by decide +kernel
theorem dX9_ask_113 : decode cX9_ask 113 = .ok (.aload_n 0, 1) := by decide +kernel
theorem dX9_ask_114 : decode cX9_ask 114 = .ok (.getfield 62, 3) := by decide +kernel
theorem dX9_ask_117 : decode cX9_ask 117 = .ok (.aload_n 0, 1) := by decide +kernel
theorem dX9_ask_118 : decode cX9_ask 118 = .ok (.getfield 113, 3) := by decide +kernel
theorem dX9_ask_121 : decode cX9_ask 121 = .ok (.iconst 0, 1) := by decide +kernel
theorem dX9_ask_122 : decode cX9_ask 122 = .ok (.iastore, 1) := by decide +kernel
theorem dX9_ask_123 : decode cX9_ask 123 = .ok (.aload_n 0, 1) := by decide +kernel
theorem dX9_ask_124 : decode cX9_ask 124 = .ok (.getfield 65, 3) := by decide +kernel
theorem dX9_ask_127 : decode cX9_ask 127 = .ok (.aload_n 0, 1) := by decide +kernel
theorem dX9_ask_128 : decode cX9_ask 128 = .ok (.getfield 113, 3) := by decide +kernel
theorem dX9_ask_131 : decode cX9_ask 131 = .ok (.iconst (-1), 1) := by decide +kernel
theorem dX9_ask_132 : decode cX9_ask 132 = .ok (.iastore, 1) := by decide +kernel
theorem dX9_ask_133 : decode cX9_ask 133 = .ok (.aload_n 0, 1) := by decide +kernel
theorem dX9_ask_134 : decode cX9_ask 134 = .ok (.getfield 68, 3) := by decide +kernel
theorem dX9_ask_137 : decode cX9_ask 137 = .ok (.aload_n 0, 1) := by decide +kernel
theorem dX9_ask_138 : decode cX9_ask 138 = .ok (.getfield 113, 3) := by decide +kernel
theorem dX9_ask_141 : decode cX9_ask 141 = .ok (.bipush (-3), 2) := by decide +kernel
theorem dX9_ask_143 : decode cX9_ask 143 = .ok (.iastore, 1) := by decide +kernel
theorem dX9_ask_144 : decode cX9_ask 144 = .ok (.aload_n 0, 1) := by decide +kernel
theorem dX9_ask_145 : decode cX9_ask 145 = .ok (.getfield 71, 3) := by decide +kernel
theorem dX9_ask_148 : decode cX9_ask 148 = .ok (.aload_n 0, 1) := by decide +kernel
theorem dX9_ask_149 : decode cX9_ask 149 = .ok (.getfield 113, 3) := by decide +kernel
theorem dX9_ask_152 : decode cX9_ask 152 = .ok (.bipush (-3), 2) := by decide +kernel
theorem dX9_ask_154 : decode cX9_ask 154 = .ok (.iastore, 1) := by decide +kernel
theorem dX9_ask_155 : decode cX9_ask 155 = .ok (.aload_n 0, 1) := by decide +kernel
theorem dX9_ask_156 : decode cX9_ask 156 = .ok (.getfield 74, 3) := by decide +kernel
theorem dX9_ask_159 : decode cX9_ask 159 = .ok (.aload_n 0, 1) := by decide +kernel
theorem dX9_ask_160 : decode cX9_ask 160 = .ok (.getfield 113, 3) := by decide +kernel
theorem dX9_ask_163 : decode cX9_ask 163 = .ok (.bipush (-3), 2) := by decide +kernel
theorem dX9_ask_165 : decode cX9_ask 165 = .ok (.iastore, 1) := by decide +kernel
theorem dX9_ask_166 : decode cX9_ask 166 = .ok (.aload_n 0, 1) := by decide +kernel
theorem dX9_ask_167 : decode cX9_ask 167 = .ok (.dup, 1) := by decide +kernel
theorem dX9_ask_168 : decode cX9_ask 168 = .ok (.getfield 113, 3) := by decide +kernel
theorem dX9_ask_171 : decode cX9_ask 171 = .ok (.iconst 1, 1) := by decide +kernel
theorem dX9_ask_172 : decode cX9_ask 172 = .ok (.iadd, 1) := by decide +kernel
theorem dX9_ask_173 : decode cX9_ask 173 = .ok (.putfield 113, 3) := by decide +kernel
theorem dX9_ask_176 : decode cX9_ask 176 = .ok (.aload_n 0, 1) := by decide +kernel
theorem dX9_ask_177 : decode cX9_ask 177 = .ok (.getfield 113, 3) := by decide +kernel
theorem dX9_ask_180 : decode cX9_ask 180 = .ok (.iconst 1, 1) := by decide +kernel
theorem dX9_ask_181 : decode cX9_ask 181 = .ok (.isub, 1) := by decide +kernel
theorem dX9_ask_182 : decode cX9_ask 182 = .ok (.ireturn, 1) := by decide +kernel
theorem dX9_hold_0 : decode cX9_hold 0 = .ok (.aload_n 0, 1) := by decide +kernel
theorem dX9_hold_1 : decode cX9_hold 1 = .ok (.iload_n 1, 1) := by decide +kernel
theorem dX9_hold_2 : decode cX9_hold 2 = .ok (.invokevirtual 262, 3) := by decide +kernel
theorem dX9_hold_5 : decode cX9_hold 5 = .ok (.ifCond .eq 15, 3) := by decide +kernel
theorem dX9_hold_8 : decode cX9_hold 8 = .ok (.iload_n 2, 1) := by decide +kernel
theorem dX9_hold_9 : decode cX9_hold 9 = .ok (.iconst (-1), 1) := by decide +kernel
theorem dX9_hold_10 : decode cX9_hold 10 = .ok (.if_icmp .eq 13, 3) := by decide +kernel
theorem dX9_hold_13 : decode cX9_hold 13 = .ok (.iload_n 2, 1) := by decide +kernel
theorem dX9_hold_14 : decode cX9_hold 14 = .ok (.invokestatic 265, 3) := by decide +kernel
theorem dX9_hold_17 : decode cX9_hold 17 = .ok (.ifCond .ne 6, 3) := by decide +kernel
theorem dX9_hold_20 : decode cX9_hold 20 = .ok (.bipush (-9), 2) := by decide +kernel
theorem dX9_hold_22 : decode cX9_hold 22 = .ok (.ireturn, 1) := by decide +kernel
theorem dX9_hold_23 : decode cX9_hold 23 = .ok (.aload_n 0, 1) := by decide +kernel
theorem dX9_hold_24 : decode cX9_hold 24 = .ok (.getfield 62, 3) := by decide +kernel
theorem dX9_hold_27 : decode cX9_hold 27 = .ok (.iload_n 1, 1) := by decide +kernel
theorem dX9_hold_28 : decode cX9_hold 28 = .ok (.iaload, 1) := by decide +kernel
theorem dX9_hold_29 : decode cX9_hold 29 = .ok (.iconst 5, 1) := by decide +kernel
theorem dX9_hold_30 : decode cX9_hold 30 = .ok (.if_icmp .eq 27, 3) := by decide +kernel
theorem dX9_hold_33 : decode cX9_hold 33 = .ok (.aload_n 0, 1) := by decide +kernel
theorem dX9_hold_34 : decode cX9_hold 34 = .ok (.getfield 62, 3) := by decide +kernel
theorem dX9_hold_37 : decode cX9_hold 37 = .ok (.iload_n 1, 1) := by decide +kernel
theorem dX9_hold_38 : decode cX9_hold 38 = .ok (.iaload, 1) := by decide +kernel
theorem dX9_hold_39 : decode cX9_hold 39 = .ok (.iconst 3, 1) := by decide +kernel
theorem dX9_hold_40 : decode cX9_hold 40 = .ok (.if_icmp .ne 20, 3) := by decide +kernel
theorem dX9_hold_43 : decode cX9_hold 43 = .ok (.iload_n 2, 1) := by decide +kernel
theorem dX9_hold_44 : decode cX9_hold 44 = .ok (.iconst (-1), 1) := by decide +kernel
theorem dX9_hold_45 : decode cX9_hold 45 = .ok (.if_icmp .eq 12, 3) := by decide +kernel
theorem dX9_hold_48 : decode cX9_hold 48 = .ok (.aload_n 0, 1) := by decide +kernel
theorem dX9_hold_49 : decode cX9_hold 49 = .ok (.getfield 47, 3) := by decide +kernel
theorem dX9_hold_52 : decode cX9_hold 52 = .ok (.iload_n 2, 1) := by decide +kernel
theorem dX9_hold_53 : decode cX9_hold 53 = .ok (.baload, 1) := by decide +kernel
theorem dX9_hold_54 : decode cX9_hold 54 = .ok (.ifCond .eq 6, 3) := by decide +kernel
theorem dX9_hold_57 : decode cX9_hold 57 = .ok (.bipush (-4), 2) := by decide +kernel
theorem dX9_hold_59 : decode cX9_hold 59 = .ok (.ireturn, 1) := by decide +kernel
theorem dX9_hold_60 : decode cX9_hold 60 = .ok (.aload_n 0, 1) := by decide +kernel
theorem dX9_hold_61 : decode cX9_hold 61 = .ok (.getfield 65, 3) := by decide +kernel
theorem dX9_hold_64 : decode cX9_hold 64 = .ok (.iload_n 1, 1) := by decide +kernel
theorem dX9_hold_65 : decode cX9_hold 65 = .ok (.iaload, 1) := by decide +kernel
theorem dX9_hold_66 : decode cX9_hold 66 = .ok (.istore_n 3, 1) := by decide +kernel
theorem dX9_hold_67 : decode cX9_hold 67 = .ok (.aload_n 0, 1) := by decide +kernel
theorem dX9_hold_68 : decode cX9_hold 68 = .ok (.getfield 65, 3) := by decide +kernel
theorem dX9_hold_71 : decode cX9_hold 71 = .ok (.iload_n 1, 1) := by decide +kernel
theorem dX9_hold_72 : decode cX9_hold 72 = .ok (.iload_n 2, 1) := by decide +kernel
theorem dX9_hold_73 : decode cX9_hold 73 = .ok (.iastore, 1) := by decide +kernel
theorem dX9_hold_74 : decode cX9_hold 74 = .ok (.iload_n 3, 1) := by decide +kernel
theorem dX9_hold_75 : decode cX9_hold 75 = .ok (.ireturn, 1) := by decide +kernel
theorem dX9_rules_0 : decode cX9_rules 0 = .ok (.aload_n 0, 1) := by decide +kernel
theorem dX9_rules_1 : decode cX9_rules 1 = .ok (.getfield 29, 3) := by decide +kernel
theorem dX9_rules_4 : decode cX9_rules 4 = .ok (.iload_n 1, 1) := by decide +kernel
theorem dX9_rules_5 : decode cX9_rules 5 = .ok (.iaload, 1) := by decide +kernel
theorem dX9_rules_6 : decode cX9_rules 6 = .ok (.iload_n 2, 1) := by decide +kernel
theorem dX9_rules_7 : decode cX9_rules 7 = .ok (.if_icmp .ne 34, 3) := by decide +kernel
theorem dX9_rules_10 : decode cX9_rules 10 = .ok (.aload_n 0, 1) := by decide +kernel
theorem dX9_rules_11 : decode cX9_rules 11 = .ok (.getfield 32, 3) := by decide +kernel
theorem dX9_rules_14 : decode cX9_rules 14 = .ok (.iload_n 1, 1) := by decide +kernel
theorem dX9_rules_15 : decode cX9_rules 15 = .ok (.iaload, 1) := by decide +kernel
theorem dX9_rules_16 : decode cX9_rules 16 = .ok (.aload_n 0, 1) := by decide +kernel
theorem dX9_rules_17 : decode cX9_rules 17 = .ok (.getfield 56, 3) := by decide +kernel
theorem dX9_rules_20 : decode cX9_rules 20 = .ok (.iload_n 3, 1) := by decide +kernel
theorem dX9_rules_21 : decode cX9_rules 21 = .ok (.iaload, 1) := by decide +kernel
theorem dX9_rules_22 : decode cX9_rules 22 = .ok (.if_icmp .ne 19, 3) := by decide +kernel
theorem dX9_rules_25 : decode cX9_rules 25 = .ok (.aload_n 0, 1) := by decide +kernel
theorem dX9_rules_26 : decode cX9_rules 26 = .ok (.iload_n 1, 1) := by decide +kernel
theorem dX9_rules_27 : decode cX9_rules 27 = .ok (.aload_n 0, 1) := by decide +kernel
theorem dX9_rules_28 : decode cX9_rules 28 = .ok (.getfield 119, 3) := by decide +kernel
theorem dX9_rules_31 : decode cX9_rules 31 = .ok (.invokevirtual 143, 3) := by decide +kernel
theorem dX9_rules_34 : decode cX9_rules 34 = .ok (.ifCond .eq 7, 3) := by decide +kernel
theorem dX9_rules_37 : decode cX9_rules 37 = .ok (.iconst 1, 1) := by decide +kernel
theorem dX9_rules_38 : decode cX9_rules 38 = .ok (.goto 4, 3) := by decide +kernel
theorem dX9_rules_41 : decode cX9_rules 41 = .ok (.iconst 0, 1) := by decide +kernel
theorem dX9_rules_42 : decode cX9_rules 42 = .ok (.ireturn, 1) := by decide +kernel
theorem dX9_lacksTest_0 : decode cX9_lacksTest 0 = .ok (.iconst 0, 1) := by decide +kernel
theorem dX9_lacksTest_1 : decode cX9_lacksTest 1 = .ok (.istore_n 2, 1) := by decide +kernel
theorem dX9_lacksTest_2 : decode cX9_lacksTest 2 = .ok (.iconst 0, 1) := by decide +kernel
theorem dX9_lacksTest_3 : decode cX9_lacksTest 3 = .ok (.istore_n 3, 1) := by decide +kernel
theorem dX9_lacksTest_4 : decode cX9_lacksTest 4 = .ok (.iload_n 3, 1) := by decide +kernel
theorem dX9_lacksTest_5 : decode cX9_lacksTest 5 = .ok (.aload_n 0, 1) := by decide +kernel
theorem dX9_lacksTest_6 : decode cX9_lacksTest 6 = .ok (.getfield 140, 3) := by decide +kernel
theorem dX9_lacksTest_9 : decode cX9_lacksTest 9 = .ok (.if_icmp .ge 81, 3) := by decide +kernel
theorem dX9_lacksTest_12 : decode cX9_lacksTest 12 = .ok (.aload_n 0, 1) := by decide +kernel
theorem dX9_lacksTest_13 : decode cX9_lacksTest 13 = .ok (.getfield 68, 3) := by decide +kernel
theorem dX9_lacksTest_16 : decode cX9_lacksTest 16 = .ok (.iload_n 1, 1) := by decide +kernel
theorem dX9_lacksTest_17 : decode cX9_lacksTest 17 = .ok (.iaload, 1) := by decide +kernel
theorem dX9_lacksTest_18 : decode cX9_lacksTest 18 = .ok (.ifCond .lt 38, 3) := by decide +kernel
theorem dX9_lacksTest_21 : decode cX9_lacksTest 21 = .ok (.aload_n 0, 1) := by decide +kernel
theorem dX9_lacksTest_22 : decode cX9_lacksTest 22 = .ok (.getfield 68, 3) := by decide +kernel
theorem dX9_lacksTest_25 : decode cX9_lacksTest 25 = .ok (.iload_n 1, 1) := by decide +kernel
theorem dX9_lacksTest_26 : decode cX9_lacksTest 26 = .ok (.iaload, 1) := by decide +kernel
theorem dX9_lacksTest_27 : decode cX9_lacksTest 27 = .ok (.bipush 10, 2) := by decide +kernel
theorem dX9_lacksTest_29 : decode cX9_lacksTest 29 = .ok (.if_icmp .gt 27, 3) := by decide +kernel
theorem dX9_lacksTest_32 : decode cX9_lacksTest 32 = .ok (.aload_n 0, 1) := by decide +kernel
theorem dX9_lacksTest_33 : decode cX9_lacksTest 33 = .ok (.getfield 119, 3) := by decide +kernel
theorem dX9_lacksTest_36 : decode cX9_lacksTest 36 = .ok (.aload_n 0, 1) := by decide +kernel
theorem dX9_lacksTest_37 : decode cX9_lacksTest 37 = .ok (.getfield 71, 3) := by decide +kernel
theorem dX9_lacksTest_40 : decode cX9_lacksTest 40 = .ok (.iload_n 1, 1) := by decide +kernel
theorem dX9_lacksTest_41 : decode cX9_lacksTest 41 = .ok (.iaload, 1) := by decide +kernel
theorem dX9_lacksTest_42 : decode cX9_lacksTest 42 = .ok (.isub, 1) := by decide +kernel
theorem dX9_lacksTest_43 : decode cX9_lacksTest 43 = .ok (.aload_n 0, 1) := by decide +kernel
theorem dX9_lacksTest_44 : decode cX9_lacksTest 44 = .ok (.getfield 35, 3) := by decide +kernel
theorem dX9_lacksTest_47 : decode cX9_lacksTest 47 = .ok (.iload_n 3, 1) := by decide +kernel
theorem dX9_lacksTest_48 : decode cX9_lacksTest 48 = .ok (.iaload, 1) := by decide +kernel
theorem dX9_lacksTest_49 : decode cX9_lacksTest 49 = .ok (.if_icmp .gt 7, 3) := by decide +kernel
theorem dX9_lacksTest_52 : decode cX9_lacksTest 52 = .ok (.iconst 1, 1) := by decide +kernel
theorem dX9_lacksTest_53 : decode cX9_lacksTest 53 = .ok (.goto 4, 3) := by decide +kernel
theorem dX9_lacksTest_56 : decode cX9_lacksTest 56 = .ok (.iconst 0, 1) := by decide +kernel
theorem dX9_lacksTest_57 : decode cX9_lacksTest 57 = .ok (.istore 4, 2) := by decide +kernel
theorem dX9_lacksTest_59 : decode cX9_lacksTest 59 = .ok (.iload_n 2, 1) := by decide +kernel
theorem dX9_lacksTest_60 : decode cX9_lacksTest 60 = .ok (.ifCond .ne 18, 3) := by decide +kernel
theorem dX9_lacksTest_63 : decode cX9_lacksTest 63 = .ok (.aload_n 0, 1) := by decide +kernel
theorem dX9_lacksTest_64 : decode cX9_lacksTest 64 = .ok (.iload_n 3, 1) := by decide +kernel
theorem dX9_lacksTest_65 : decode cX9_lacksTest 65 = .ok (.iconst 0, 1) := by decide +kernel
theorem dX9_lacksTest_66 : decode cX9_lacksTest 66 = .ok (.iload_n 1, 1) := by decide +kernel
theorem dX9_lacksTest_67 : decode cX9_lacksTest 67 = .ok (.invokevirtual 268, 3) := by decide +kernel
theorem dX9_lacksTest_70 : decode cX9_lacksTest 70 = .ok (.ifCond .eq 12, 3) := by decide +kernel
theorem dX9_lacksTest_73 : decode cX9_lacksTest 73 = .ok (.iload 4, 2) := by decide +kernel
theorem dX9_lacksTest_75 : decode cX9_lacksTest 75 = .ok (.ifCond .ne 7, 3) := by decide +kernel
theorem dX9_lacksTest_78 : decode cX9_lacksTest 78 = .ok (.iconst 1, 1) := by decide +kernel
theorem dX9_lacksTest_79 : decode cX9_lacksTest 79 = .ok (.goto 4, 3) := by decide +kernel
theorem dX9_lacksTest_82 : decode cX9_lacksTest 82 = .ok (.iconst 0, 1) := by decide +kernel
theorem dX9_lacksTest_83 : decode cX9_lacksTest 83 = .ok (.istore_n 2, 1) := by decide +kernel
theorem dX9_lacksTest_84 : decode cX9_lacksTest 84 = .ok (.iinc 3 1, 3) := by decide +kernel
theorem dX9_lacksTest_87 : decode cX9_lacksTest 87 = .ok (.goto (-83), 3) := by decide +kernel
theorem dX9_lacksTest_90 : decode cX9_lacksTest 90 = .ok (.iload_n 2, 1) := by decide +kernel
theorem dX9_lacksTest_91 : decode cX9_lacksTest 91 = .ok (.ireturn, 1) := by decide +kernel
theorem dX9_within_0 : decode cX9_within 0 = .ok (.iconst (-1), 1) := by decide +kernel
theorem dX9_within_1 : decode cX9_within 1 = .ok (.istore_n 3, 1) := by decide +kernel
theorem dX9_within_2 : decode cX9_within 2 = .ok (.iconst 0, 1) := by decide +kernel
theorem dX9_within_3 : decode cX9_within 3 = .ok (.istore 4, 2) := by decide +kernel
theorem dX9_within_5 : decode cX9_within 5 = .ok (.iload 4, 2) := by decide +kernel
theorem dX9_within_7 : decode cX9_within 7 = .ok (.aload_n 0, 1) := by decide +kernel
theorem dX9_within_8 : decode cX9_within 8 = .ok (.getfield 140, 3) := by decide +kernel
theorem dX9_within_11 : decode cX9_within 11 = .ok (.if_icmp .ge 108, 3) := by decide +kernel
theorem dX9_within_14 : decode cX9_within 14 = .ok (.aload_n 0, 1) := by decide +kernel
theorem dX9_within_15 : decode cX9_within 15 = .ok (.getfield 32, 3) := by decide +kernel
theorem dX9_within_18 : decode cX9_within 18 = .ok (.iload 4, 2) := by decide +kernel
theorem dX9_within_20 : decode cX9_within 20 = .ok (.iaload, 1) := by decide +kernel
theorem dX9_within_21 : decode cX9_within 21 = .ok (.iload_n 1, 1) := by decide +kernel
theorem dX9_within_22 : decode cX9_within 22 = .ok (.if_icmp .ne 14, 3) := by decide +kernel
theorem dX9_within_25 : decode cX9_within 25 = .ok (.aload_n 0, 1) := by decide +kernel
theorem dX9_within_26 : decode cX9_within 26 = .ok (.getfield 35, 3) := by decide +kernel
theorem dX9_within_29 : decode cX9_within 29 = .ok (.iload 4, 2) := by decide +kernel
theorem dX9_within_31 : decode cX9_within 31 = .ok (.iaload, 1) := by decide +kernel
theorem dX9_within_32 : decode cX9_within 32 = .ok (.iload_n 2, 1) := by decide +kernel
theorem dX9_within_33 : decode cX9_within 33 = .ok (.if_icmp .eq 25, 3) := by decide +kernel
theorem dX9_within_36 : decode cX9_within 36 = .ok (.aload_n 0, 1) := by decide +kernel
theorem dX9_within_37 : decode cX9_within 37 = .ok (.getfield 32, 3) := by decide +kernel
theorem dX9_within_40 : decode cX9_within 40 = .ok (.iload 4, 2) := by decide +kernel
theorem dX9_within_42 : decode cX9_within 42 = .ok (.iaload, 1) := by decide +kernel
theorem dX9_within_43 : decode cX9_within 43 = .ok (.iload_n 2, 1) := by decide +kernel
theorem dX9_within_44 : decode cX9_within 44 = .ok (.if_icmp .ne 18, 3) := by decide +kernel
theorem dX9_within_47 : decode cX9_within 47 = .ok (.aload_n 0, 1) := by decide +kernel
theorem dX9_within_48 : decode cX9_within 48 = .ok (.getfield 35, 3) := by decide +kernel
theorem dX9_within_51 : decode cX9_within 51 = .ok (.iload 4, 2) := by decide +kernel
theorem dX9_within_53 : decode cX9_within 53 = .ok (.iaload, 1) := by decide +kernel
theorem dX9_within_54 : decode cX9_within 54 = .ok (.iload_n 1, 1) := by decide +kernel
theorem dX9_within_55 : decode cX9_within 55 = .ok (.if_icmp .ne 7, 3) := by decide +kernel
theorem dX9_within_58 : decode cX9_within 58 = .ok (.iconst 1, 1) := by decide +kernel
theorem dX9_within_59 : decode cX9_within 59 = .ok (.goto 4, 3) := by decide +kernel
theorem dX9_within_62 : decode cX9_within 62 = .ok (.iconst 0, 1) := by decide +kernel
theorem dX9_within_63 : decode cX9_within 63 = .ok (.istore 5, 2) := by decide +kernel
theorem dX9_within_65 : decode cX9_within 65 = .ok (.aload_n 0, 1) := by decide +kernel
theorem dX9_within_66 : decode cX9_within 66 = .ok (.getfield 29, 3) := by decide +kernel
