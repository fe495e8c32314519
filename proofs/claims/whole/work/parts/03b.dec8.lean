theorem dX8_init_0 : decode cX8_init 0 = .ok (.aload_n 0, 1) := by decide +kernel
theorem dX8_init_1 : decode cX8_init 1 = .ok (.invokespecial 1, 3) := by decide +kernel
theorem dX8_init_4 : decode cX8_init 4 = .ok (.aload_n 0, 1) := by decide +kernel
theorem dX8_init_5 : decode cX8_init 5 = .ok (.bipush 100, 2) := by decide +kernel
theorem dX8_init_7 : decode cX8_init 7 = .ok (.putfield 7, 3) := by decide +kernel
theorem dX8_init_10 : decode cX8_init 10 = .ok (.aload_n 0, 1) := by decide +kernel
theorem dX8_init_11 : decode cX8_init 11 = .ok (.iconst 3, 1) := by decide +kernel
theorem dX8_init_12 : decode cX8_init 12 = .ok (.putfield 13, 3) := by decide +kernel
theorem dX8_init_15 : decode cX8_init 15 = .ok (.aload_n 0, 1) := by decide +kernel
theorem dX8_init_16 : decode cX8_init 16 = .ok (.bipush 7, 2) := by decide +kernel
theorem dX8_init_18 : decode cX8_init 18 = .ok (.putfield 16, 3) := by decide +kernel
theorem dX8_init_21 : decode cX8_init 21 = .ok (.aload_n 0, 1) := by decide +kernel
theorem dX8_init_22 : decode cX8_init 22 = .ok (.bipush 10, 2) := by decide +kernel
theorem dX8_init_24 : decode cX8_init 24 = .ok (.putfield 19, 3) := by decide +kernel
theorem dX8_init_27 : decode cX8_init 27 = .ok (.aload_n 0, 1) := by decide +kernel
theorem dX8_init_28 : decode cX8_init 28 = .ok (.bipush 50, 2) := by decide +kernel
theorem dX8_init_30 : decode cX8_init 30 = .ok (.putfield 22, 3) := by decide +kernel
theorem dX8_init_33 : decode cX8_init 33 = .ok (.aload_n 0, 1) := by decide +kernel
theorem dX8_init_34 : decode cX8_init 34 = .ok (.bipush 40, 2) := by decide +kernel
theorem dX8_init_36 : decode cX8_init 36 = .ok (.newarray .int, 2) := by decide +kernel
theorem dX8_init_38 : decode cX8_init 38 = .ok (.putfield 25, 3) := by decide +kernel
theorem dX8_init_41 : decode cX8_init 41 = .ok (.aload_n 0, 1) := by decide +kernel
theorem dX8_init_42 : decode cX8_init 42 = .ok (.bipush 40, 2) := by decide +kernel
theorem dX8_init_44 : decode cX8_init 44 = .ok (.newarray .int, 2) := by decide +kernel
theorem dX8_init_46 : decode cX8_init 46 = .ok (.putfield 29, 3) := by decide +kernel
theorem dX8_init_49 : decode cX8_init 49 = .ok (.aload_n 0, 1) := by decide +kernel
theorem dX8_init_50 : decode cX8_init 50 = .ok (.bipush 40, 2) := by decide +kernel
theorem dX8_init_52 : decode cX8_init 52 = .ok (.newarray .int, 2) := by decide +kernel
theorem dX8_init_54 : decode cX8_init 54 = .ok (.putfield 32, 3) := by decide +kernel
theorem dX8_init_57 : decode cX8_init 57 = .ok (.aload_n 0, 1) := by decide +kernel
theorem dX8_init_58 : decode cX8_init 58 = .ok (.bipush 12, 2) := by decide +kernel
theorem dX8_init_60 : decode cX8_init 60 = .ok (.newarray .int, 2) := by decide +kernel
theorem dX8_init_62 : decode cX8_init 62 = .ok (.putfield 35, 3) := by decide +kernel
theorem dX8_init_65 : decode cX8_init 65 = .ok (.aload_n 0, 1) := by decide +kernel
theorem dX8_init_66 : decode cX8_init 66 = .ok (.bipush 12, 2) := by decide +kernel
theorem dX8_init_68 : decode cX8_init 68 = .ok (.newarray .int, 2) := by decide +kernel
theorem dX8_init_70 : decode cX8_init 70 = .ok (.putfield 38, 3) := by decide +kernel
theorem dX8_init_73 : decode cX8_init 73 = .ok (.aload_n 0, 1) := by decide +kernel
theorem dX8_init_74 : decode cX8_init 74 = .ok (.bipush 12, 2) := by decide +kernel
theorem dX8_init_76 : decode cX8_init 76 = .ok (.newarray .int, 2) := by decide +kernel
theorem dX8_init_78 : decode cX8_init 78 = .ok (.putfield 41, 3) := by decide +kernel
theorem dX8_init_81 : decode cX8_init 81 = .ok (.aload_n 0, 1) := by decide +kernel
theorem dX8_init_82 : decode cX8_init 82 = .ok (.bipush 12, 2) := by decide +kernel
theorem dX8_init_84 : decode cX8_init 84 = .ok (.newarray .int, 2) := by decide +kernel
theorem dX8_init_86 : decode cX8_init 86 = .ok (.putfield 44, 3) := by decide +kernel
theorem dX8_init_89 : decode cX8_init 89 = .ok (.aload_n 0, 1) := by decide +kernel
theorem dX8_init_90 : decode cX8_init 90 = .ok (.bipush 12, 2) := by decide +kernel
theorem dX8_init_92 : decode cX8_init 92 = .ok (.newarray .int, 2) := by decide +kernel
theorem dX8_init_94 : decode cX8_init 94 = .ok (.putfield 47, 3) := by decide +kernel
theorem dX8_init_97 : decode cX8_init 97 = .ok (.aload_n 0, 1) := by decide +kernel
theorem dX8_init_98 : decode cX8_init 98 = .ok (.bipush 12, 2) := by decide +kernel
theorem dX8_init_100 : decode cX8_init 100 = .ok (.newarray .int, 2) := by decide +kernel
theorem dX8_init_102 : decode cX8_init 102 = .ok (.putfield 50, 3) := by decide +kernel
theorem dX8_init_105 : decode cX8_init 105 = .ok (.aload_n 0, 1) := by decide +kernel
theorem dX8_init_106 : decode cX8_init 106 = .ok (.bipush 12, 2) := by decide +kernel
theorem dX8_init_108 : decode cX8_init 108 = .ok (.newarray .int, 2) := by decide +kernel
theorem dX8_init_110 : decode cX8_init 110 = .ok (.putfield 53, 3) := by decide +kernel
theorem dX8_init_113 : decode cX8_init 113 = .ok (.aload_n 0, 1) := by decide +kernel
theorem dX8_init_114 : decode cX8_init 114 = .ok (.sipush 144, 3) := by decide +kernel
theorem dX8_init_117 : decode cX8_init 117 = .ok (.newarray .int, 2) := by decide +kernel
theorem dX8_init_119 : decode cX8_init 119 = .ok (.putfield 56, 3) := by decide +kernel
theorem dX8_init_122 : decode cX8_init 122 = .ok (.aload_n 0, 1) := by decide +kernel
theorem dX8_init_123 : decode cX8_init 123 = .ok (.bipush 30, 2) := by decide +kernel
theorem dX8_init_125 : decode cX8_init 125 = .ok (.newarray .int, 2) := by decide +kernel
theorem dX8_init_127 : decode cX8_init 127 = .ok (.putfield 59, 3) := by decide +kernel
theorem dX8_init_130 : decode cX8_init 130 = .ok (.aload_n 0, 1) := by decide +kernel
theorem dX8_init_131 : decode cX8_init 131 = .ok (.bipush 30, 2) := by decide +kernel
theorem dX8_init_133 : decode cX8_init 133 = .ok (.newarray .int, 2) := by decide +kernel
theorem dX8_init_135 : decode cX8_init 135 = .ok (.putfield 62, 3) := by decide +kernel
theorem dX8_init_138 : decode cX8_init 138 = .ok (.aload_n 0, 1) := by decide +kernel
theorem dX8_init_139 : decode cX8_init 139 = .ok (.bipush 30, 2) := by decide +kernel
theorem dX8_init_141 : decode cX8_init 141 = .ok (.newarray .int, 2) := by decide +kernel
theorem dX8_init_143 : decode cX8_init 143 = .ok (.putfield 65, 3) := by decide +kernel
theorem dX8_init_146 : decode cX8_init 146 = .ok (.aload_n 0, 1) := by decide +kernel
theorem dX8_init_147 : decode cX8_init 147 = .ok (.bipush 30, 2) := by decide +kernel
theorem dX8_init_149 : decode cX8_init 149 = .ok (.newarray .boolean, 2) := by decide +kernel
theorem dX8_init_151 : decode cX8_init 151 = .ok (.putfield 68, 3) := by decide +kernel
theorem dX8_init_154 : decode cX8_init 154 = .ok (.aload_n 0, 1) := by decide +kernel
theorem dX8_init_155 : decode cX8_init 155 = .ok (.bipush 30, 2) := by decide +kernel
theorem dX8_init_157 : decode cX8_init 157 = .ok (.newarray .int, 2) := by decide +kernel
theorem dX8_init_159 : decode cX8_init 159 = .ok (.putfield 72, 3) := by decide +kernel
theorem dX8_init_162 : decode cX8_init 162 = .ok (.aload_n 0, 1) := by decide +kernel
theorem dX8_init_163 : decode cX8_init 163 = .ok (.bipush 30, 2) := by decide +kernel
theorem dX8_init_165 : decode cX8_init 165 = .ok (.newarray .int, 2) := by decide +kernel
theorem dX8_init_167 : decode cX8_init 167 = .ok (.putfield 75, 3) := by decide +kernel
theorem dX8_init_170 : decode cX8_init 170 = .ok (.aload_n 0, 1) := by decide +kernel
theorem dX8_init_171 : decode cX8_init 171 = .ok (.bipush 30, 2) := by decide +kernel
theorem dX8_init_173 : decode cX8_init 173 = .ok (.newarray .boolean, 2) := by decide +kernel
theorem dX8_init_175 : decode cX8_init 175 = .ok (.putfield 78, 3) := by decide +kernel
theorem dX8_init_178 : decode cX8_init 178 = .ok (.aload_n 0, 1) := by decide +kernel
theorem dX8_init_179 : decode cX8_init 179 = .ok (.bipush 30, 2) := by decide +kernel
theorem dX8_init_181 : decode cX8_init 181 = .ok (.newarray .int, 2) := by decide +kernel
theorem dX8_init_183 : decode cX8_init 183 = .ok (.putfield 81, 3) := by decide +kernel
theorem dX8_init_186 : decode cX8_init 186 = .ok (.aload_n 0, 1) := by decide +kernel
theorem dX8_init_187 : decode cX8_init 187 = .ok (.bipush 30, 2) := by decide +kernel
theorem dX8_init_189 : decode cX8_init 189 = .ok (.newarray .int, 2) := by decide +kernel
theorem dX8_init_191 : decode cX8_init 191 = .ok (.putfield 84, 3) := by decide +kernel
theorem dX8_init_194 : decode cX8_init 194 = .ok (.aload_n 0, 1) := by decide +kernel
theorem dX8_init_195 : decode cX8_init 195 = .ok (.bipush 30, 2) := by decide +kernel
theorem dX8_init_197 : decode cX8_init 197 = .ok (.newarray .int, 2) := by decide +kernel
theorem dX8_init_199 : decode cX8_init 199 = .ok (.putfield 87, 3) := by decide +kernel
theorem dX8_init_202 : decode cX8_init 202 = .ok (.aload_n 0, 1) := by decide +kernel
theorem dX8_init_203 : decode cX8_init 203 = .ok (.bipush 30, 2) := by decide +kernel
theorem dX8_init_205 : decode cX8_init 205 = .ok (.newarray .int, 2) := by decide +kernel
theorem dX8_init_207 : decode cX8_init 207 = .ok (.putfield 90, 3) := by decide +kernel
theorem dX8_init_210 : decode cX8_init 210 = .ok (.aload_n 0, 1) := by decide +kernel
theorem dX8_init_211 : decode cX8_init 211 = .ok (.bipush 20, 2) := by decide +kernel
theorem dX8_init_213 : decode cX8_init 213 = .ok (.newarray .int, 2) := by decide +kernel
theorem dX8_init_215 : decode cX8_init 215 = .ok (.putfield 93, 3) := by decide +kernel
theorem dX8_init_218 : decode cX8_init 218 = .ok (.aload_n 0, 1) := by decide +kernel
theorem dX8_init_219 : decode cX8_init 219 = .ok (.bipush 20, 2) := by decide +kernel
theorem dX8_init_221 : decode cX8_init 221 = .ok (.newarray .int, 2) := by decide +kernel
theorem dX8_init_223 : decode cX8_init 223 = .ok (.putfield 96, 3) := by decide +kernel
theorem dX8_init_226 : decode cX8_init 226 = .ok (.aload_n 0, 1) := by decide +kernel
theorem dX8_init_227 : decode cX8_init 227 = .ok (.bipush 20, 2) := by decide +kernel
theorem dX8_init_229 : decode cX8_init 229 = .ok (.newarray .int, 2) := by decide +kernel
theorem dX8_init_231 : decode cX8_init 231 = .ok (.putfield 99, 3) := by decide +kernel
theorem dX8_init_234 : decode cX8_init 234 = .ok (.aload_n 0, 1) := by decide +kernel
theorem dX8_init_235 : decode cX8_init 235 = .ok (.bipush 20, 2) := by decide +kernel
theorem dX8_init_237 : decode cX8_init 237 = .ok (.newarray .int, 2) := by decide +kernel
theorem dX8_init_239 : decode cX8_init 239 = .ok (.putfield 102, 3) := by decide +kernel
theorem dX8_init_242 : decode cX8_init 242 = .ok (.aload_n 0, 1) := by decide +kernel
theorem dX8_init_243 : decode cX8_init 243 = .ok (.sipush 600, 3) := by decide +kernel
theorem dX8_init_246 : decode cX8_init 246 = .ok (.newarray .int, 2) := by decide +kernel
theorem dX8_init_248 : decode cX8_init 248 = .ok (.putfield 105, 3) := by decide +kernel
theorem dX8_init_251 : decode cX8_init 251 = .ok (.aload_n 0, 1) := by decide +kernel
theorem dX8_init_252 : decode cX8_init 252 = .ok (.sipush 600, 3) := by decide +kernel
theorem dX8_init_255 : decode cX8_init 255 = .ok (.newarray .int, 2) := by decide +kernel
theorem dX8_init_257 : decode cX8_init 257 = .ok (.putfield 108, 3) := by decide +kernel
theorem dX8_init_260 : decode cX8_init 260 = .ok (.aload_n 0, 1) := by decide +kernel
theorem dX8_init_261 : decode cX8_init 261 = .ok (.sipush 600, 3) := by decide +kernel
theorem dX8_init_264 : decode cX8_init 264 = .ok (.newarray .int, 2) := by decide +kernel
theorem dX8_init_266 : decode cX8_init 266 = .ok (.putfield 111, 3) := by decide +kernel
theorem dX8_init_269 : decode cX8_init 269 = .ok (.aload_n 0, 1) := by decide +kernel
theorem dX8_init_270 : decode cX8_init 270 = .ok (.iconst 5, 1) := by decide +kernel
theorem dX8_init_271 : decode cX8_init 271 = .ok (.newarray .int, 2) := by decide +kernel
theorem dX8_init_273 : decode cX8_init 273 = .ok (.putfield 114, 3) := by decide +kernel
theorem dX8_init_276 : decode cX8_init 276 = .ok (.aload_n 0, 1) := by decide +kernel
theorem dX8_init_277 : decode cX8_init 277 = .ok (.iconst 5, 1) := by decide +kernel
theorem dX8_init_278 : decode cX8_init 278 = .ok (.newarray .int, 2) := by decide +kernel
theorem dX8_init_280 : decode cX8_init 280 = .ok (.putfield 117, 3) := by decide +kernel
theorem dX8_init_283 : decode cX8_init 283 = .ok (.return_, 1) := by decide +kernel
theorem dX8_thrown_0 : decode cX8_thrown 0 = .ok (.aload_n 0, 1) := by decide +kernel
theorem dX8_thrown_1 : decode cX8_thrown 1 = .ok (.getfield 120, 3) := by decide +kernel
theorem dX8_thrown_4 : decode cX8_thrown 4 = .ok (.ireturn, 1) := by decide +kernel
theorem dX8_holdsTo_0 : decode cX8_holdsTo 0 = .ok (.aload_n 0, 1) := by decide +kernel
theorem dX8_holdsTo_1 : decode cX8_holdsTo 1 = .ok (.iload_n 1, 1) := by decide +kernel
theorem dX8_holdsTo_2 : decode cX8_holdsTo 2 = .ok (.putfield 120, 3) := by decide +kernel
theorem dX8_holdsTo_5 : decode cX8_holdsTo 5 = .ok (.iload_n 1, 1) := by decide +kernel
theorem dX8_holdsTo_6 : decode cX8_holdsTo 6 = .ok (.ifCond .ne 7, 3) := by decide +kernel
theorem dX8_holdsTo_9 : decode cX8_holdsTo 9 = .ok (.iconst 1, 1) := by decide +kernel
theorem dX8_holdsTo_10 : decode cX8_holdsTo 10 = .ok (.goto 4, 3) := by decide +kernel
theorem dX8_holdsTo_13 : decode cX8_holdsTo 13 = .ok (.iconst 0, 1) := by decide +kernel
theorem dX8_holdsTo_14 : decode cX8_holdsTo 14 = .ok (.ireturn, 1) := by decide +kernel
theorem dX8_isIn_0 : decode cX8_isIn 0 = .ok (.iload_n 0, 1) := by decide +kernel
theorem dX8_isIn_1 : decode cX8_isIn 1 = .ok (.iload_n 1, 1) := by decide +kernel
theorem dX8_isIn_2 : decode cX8_isIn 2 = .ok (.if_icmp .lt 12, 3) := by decide +kernel
theorem dX8_isIn_5 : decode cX8_isIn 5 = .ok (.iload_n 0, 1) := by decide +kernel
theorem dX8_isIn_6 : decode cX8_isIn 6 = .ok (.iload_n 2, 1) := by decide +kernel
theorem dX8_isIn_7 : decode cX8_isIn 7 = .ok (.if_icmp .gt 7, 3) := by decide +kernel
theorem dX8_isIn_10 : decode cX8_isIn 10 = .ok (.iconst 1, 1) := by decide +kernel
theorem dX8_isIn_11 : decode cX8_isIn 11 = .ok (.goto 4, 3) := by decide +kernel
theorem dX8_isIn_14 : decode cX8_isIn 14 = .ok (.iconst 0, 1) := by decide +kernel
theorem dX8_isIn_15 : decode cX8_isIn 15 = .ok (.ireturn, 1) := by decide +kernel
theorem dX8_lesser_0 : decode cX8_lesser 0 = .ok (.iload_n 0, 1) := by decide +kernel
theorem dX8_lesser_1 : decode cX8_lesser 1 = .ok (.iload_n 1, 1) := by decide +kernel
theorem dX8_lesser_2 : decode cX8_lesser 2 = .ok (.if_icmp .ge 7, 3) := by decide +kernel
theorem dX8_lesser_5 : decode cX8_lesser 5 = .ok (.iload_n 0, 1) := by decide +kernel
theorem dX8_lesser_6 : decode cX8_lesser 6 = .ok (.goto 4, 3) := by decide +kernel
theorem dX8_lesser_9 : decode cX8_lesser 9 = .ok (.iload_n 1, 1) := by decide +kernel
theorem dX8_lesser_10 : decode cX8_lesser 10 = .ok (.ireturn, 1) := by decide +kernel
theorem dX8_isCell_0 : decode cX8_isCell 0 = .ok (.iload_n 0, 1) := by decide +kernel
theorem dX8_isCell_1 : decode cX8_isCell 1 = .ok (.iconst 0, 1) := by decide +kernel
theorem dX8_isCell_2 : decode cX8_isCell 2 = .ok (.bipush 39, 2) := by decide +kernel
theorem dX8_isCell_4 : decode cX8_isCell 4 = .ok (.invokestatic 123, 3) := by decide +kernel
theorem dX8_isCell_7 : decode cX8_isCell 7 = .ok (.ireturn, 1) := by decide +kernel
theorem dX8_isMiner_0 : decode cX8_isMiner 0 = .ok (.iload_n 1, 1) := by decide +kernel
theorem dX8_isMiner_1 : decode cX8_isMiner 1 = .ok (.iconst 0, 1) := by decide +kernel
theorem dX8_isMiner_2 : decode cX8_isMiner 2 = .ok (.aload_n 0, 1) := by decide +kernel
theorem dX8_isMiner_3 : decode cX8_isMiner 3 = .ok (.getfield 127, 3) := by decide +kernel
theorem dX8_isMiner_6 : decode cX8_isMiner 6 = .ok (.iconst 1, 1) := by decide +kernel
theorem dX8_isMiner_7 : decode cX8_isMiner 7 = .ok (.isub, 1) := by decide +kernel
theorem dX8_isMiner_8 : decode cX8_isMiner 8 = .ok (.invokestatic 123, 3) := by decide +kernel
theorem dX8_isMiner_11 : decode cX8_isMiner 11 = .ok (.ireturn, 1) := by decide +kernel
theorem dX8_isDead_0 : decode cX8_isDead 0 = .ok (.aload_n 0, 1) := by decide +kernel
theorem dX8_isDead_1 : decode cX8_isDead 1 = .ok (.getfield 47, 3) := by decide +kernel
theorem dX8_isDead_4 : decode cX8_isDead 4 = .ok (.iload_n 1, 1) := by decide +kernel
theorem dX8_isDead_5 : decode cX8_isDead 5 = .ok (.iaload, 1) := by decide +kernel
theorem dX8_isDead_6 : decode cX8_isDead 6 = .ok (.ifCond .ne 7, 3) := by decide +kernel
theorem dX8_isDead_9 : decode cX8_isDead 9 = .ok (.iconst 1, 1) := by decide +kernel
theorem dX8_isDead_10 : decode cX8_isDead 10 = .ok (.goto 4, 3) := by decide +kernel
theorem dX8_isDead_13 : decode cX8_isDead 13 = .ok (.iconst 0, 1) := by decide +kernel
theorem dX8_isDead_14 : decode cX8_isDead 14 = .ok (.ireturn, 1) := by decide +kernel
theorem dX8_isClaim_0 : decode cX8_isClaim 0 = .ok (.iload_n 1, 1) := by decide +kernel
theorem dX8_isClaim_1 : decode cX8_isClaim 1 = .ok (.iconst 0, 1) := by decide +kernel
theorem dX8_isClaim_2 : decode cX8_isClaim 2 = .ok (.aload_n 0, 1) := by decide +kernel
theorem dX8_isClaim_3 : decode cX8_isClaim 3 = .ok (.getfield 130, 3) := by decide +kernel
theorem dX8_isClaim_6 : decode cX8_isClaim 6 = .ok (.iconst 1, 1) := by decide +kernel
theorem dX8_isClaim_7 : decode cX8_isClaim 7 = .ok (.isub, 1) := by decide +kernel
theorem dX8_isClaim_8 : decode cX8_isClaim 8 = .ok (.invokestatic 123, 3) := by decide +kernel
theorem dX8_isClaim_11 : decode cX8_isClaim 11 = .ok (.ireturn, 1) := by decide +kernel
theorem dX8_isMethod_0 : decode cX8_isMethod 0 = .ok (.iload_n 0, 1) := by decide +kernel
theorem dX8_isMethod_1 : decode cX8_isMethod 1 = .ok (.iconst 0, 1) := by decide +kernel
theorem dX8_isMethod_2 : decode cX8_isMethod 2 = .ok (.iconst 3, 1) := by decide +kernel
theorem dX8_isMethod_3 : decode cX8_isMethod 3 = .ok (.invokestatic 123, 3) := by decide +kernel
theorem dX8_isMethod_6 : decode cX8_isMethod 6 = .ok (.ireturn, 1) := by decide +kernel
theorem dX8_ground_0 : decode cX8_ground 0 = .ok (.iload_n 2, 1) := by decide +kernel
theorem dX8_ground_1 : decode cX8_ground 1 = .ok (.iconst 0, 1) := by decide +kernel
theorem dX8_ground_2 : decode cX8_ground 2 = .ok (.ldc 133, 2) := by decide +kernel
theorem dX8_ground_4 : decode cX8_ground 4 = .ok (.invokestatic 123, 3) := by decide +kernel
theorem dX8_ground_7 : decode cX8_ground 7 = .ok (.ifCond .eq 17, 3) := by decide +kernel
theorem dX8_ground_10 : decode cX8_ground 10 = .ok (.iload_n 3, 1) := by decide +kernel
theorem dX8_ground_11 : decode cX8_ground 11 = .ok (.iconst 0, 1) := by decide +kernel
theorem dX8_ground_12 : decode cX8_ground 12 = .ok (.bipush 9, 2) := by decide +kernel
theorem dX8_ground_14 : decode cX8_ground 14 = .ok (.invokestatic 123, 3) := by decide +kernel
theorem dX8_ground_17 : decode cX8_ground 17 = .ok (.ifCond .eq 7, 3) := by decide +kernel
theorem dX8_ground_20 : decode cX8_ground 20 = .ok (.iconst 1, 1) := by decide +kernel
theorem dX8_ground_21 : decode cX8_ground 21 = .ok (.goto 4, 3) := by decide +kernel
theorem dX8_ground_24 : decode cX8_ground 24 = .ok (.iconst 0, 1) := by decide +kernel
theorem dX8_ground_25 : decode cX8_ground 25 = .ok (.istore 4, 2) := by decide +kernel
theorem dX8_ground_27 : decode cX8_ground 27 = .ok (.aload_n 0, 1) := by decide +kernel
theorem dX8_ground_28 : decode cX8_ground 28 = .ok (.iload_n 1, 1) := by decide +kernel
theorem dX8_ground_29 : decode cX8_ground 29 = .ok (.invokestatic 134, 3) := by decide +kernel
theorem dX8_ground_32 : decode cX8_ground 32 = .ok (.ifCond .ne 7, 3) := by decide +kernel
theorem dX8_ground_35 : decode cX8_ground 35 = .ok (.iconst 1, 1) := by decide +kernel
theorem dX8_ground_36 : decode cX8_ground 36 = .ok (.goto 31, 3) := by decide +kernel
theorem dX8_ground_39 : decode cX8_ground 39 = .ok (.iload 4, 2) := by decide +kernel
theorem dX8_ground_41 : decode cX8_ground 41 = .ok (.ifCond .ne 7, 3) := by decide +kernel
theorem dX8_ground_44 : decode cX8_ground 44 = .ok (.iconst 2, 1) := by decide +kernel
theorem dX8_ground_45 : decode cX8_ground 45 = .ok (.goto 22, 3) := by decide +kernel
theorem dX8_ground_48 : decode cX8_ground 48 = .ok (.aload_n 0, 1) := by decide +kernel
theorem dX8_ground_49 : decode cX8_ground 49 = .ok (.getfield 138, 3) := by decide +kernel
theorem dX8_ground_52 : decode cX8_ground 52 = .ok (.ifCond .gt 10, 3) := by decide +kernel
theorem dX8_ground_55 : decode cX8_ground 55 = .ok (.aload_n 0, 1) := by decide +kernel
theorem dX8_ground_56 : decode cX8_ground 56 = .ok (.getfield 141, 3) := by decide +kernel
theorem dX8_ground_59 : decode cX8_ground 59 = .ok (.ifCond .eq 7, 3) := by decide +kernel
theorem dX8_ground_62 : decode cX8_ground 62 = .ok (.iconst 3, 1) := by decide +kernel
theorem dX8_ground_63 : decode cX8_ground 63 = .ok (.goto 4, 3) := by decide +kernel
theorem dX8_ground_66 : decode cX8_ground 66 = .ok (.iconst 0, 1) := by decide +kernel
theorem dX8_ground_67 : decode cX8_ground 67 = .ok (.invokevirtual 145, 3) := by decide +kernel
theorem dX8_ground_70 : decode cX8_ground 70 = .ok (.ifCond .ne 5, 3) := by decide +kernel
theorem dX8_ground_73 : decode cX8_ground 73 = .ok (.iconst 0, 1) := by decide +kernel
theorem dX8_ground_74 : decode cX8_ground 74 = .ok (.ireturn, 1) := by decide +kernel
theorem dX8_ground_75 : decode cX8_ground 75 = .ok (.aload_n 0, 1) := by decide +kernel
theorem dX8_ground_76 : decode cX8_ground 76 = .ok (.getfield 25, 3) := by decide +kernel
theorem dX8_ground_79 : decode cX8_ground 79 = .ok (.iload_n 1, 1) := by decide +kernel
theorem dX8_ground_80 : decode cX8_ground 80 = .ok (.iaload, 1) := by decide +kernel
theorem dX8_ground_81 : decode cX8_ground 81 = .ok (.istore 5, 2) := by decide +kernel
theorem dX8_ground_83 : decode cX8_ground 83 = .ok (.aload_n 0, 1) := by decide +kernel
theorem dX8_ground_84 : decode cX8_ground 84 = .ok (.getfield 25, 3) := by decide +kernel
theorem dX8_ground_87 : decode cX8_ground 87 = .ok (.iload_n 1, 1) := by decide +kernel
theorem dX8_ground_88 : decode cX8_ground 88 = .ok (.iload_n 2, 1) := by decide +kernel
theorem dX8_ground_89 : decode cX8_ground 89 = .ok (.iastore, 1) := by decide +kernel
theorem dX8_ground_90 : decode cX8_ground 90 = .ok (.aload_n 0, 1) := by decide +kernel
theorem dX8_ground_91 : decode cX8_ground 91 = .ok (.getfield 29, 3) := by decide +kernel
theorem dX8_ground_94 : decode cX8_ground 94 = .ok (.iload_n 1, 1) := by decide +kernel
theorem dX8_ground_95 : decode cX8_ground 95 = .ok (.iload_n 3, 1) := by decide +kernel
theorem dX8_ground_96 : decode cX8_ground 96 = .ok (.iastore, 1) := by decide +kernel
theorem dX8_ground_97 : decode cX8_ground 97 = .ok (.iload 5, 2) := by decide +kernel
theorem dX8_ground_99 : decode cX8_ground 99 = .ok (.ireturn, 1) := by decide +kernel
theorem dX8_flow_0 : decode cX8_flow 0 = .ok (.aload_n 0, 1) := by decide +kernel
theorem dX8_flow_1 : decode cX8_flow 1 = .ok (.iload_n 1, 1) := by decide +kernel
theorem dX8_flow_2 : decode cX8_flow 2 = .ok (.iconst 0, 1) := by decide +kernel
theorem dX8_flow_3 : decode cX8_flow 3 = .ok (.sipush 1000, 3) := by decide +kernel
theorem dX8_flow_6 : decode cX8_flow 6 = .ok (.invokestatic 123, 3) := by decide +kernel
theorem dX8_flow_9 : decode cX8_flow 9 = .ok (.ifCond .eq 7, 3) := by decide +kernel
theorem dX8_flow_12 : decode cX8_flow 12 = .ok (.iconst 0, 1) := by decide +kernel
theorem dX8_flow_13 : decode cX8_flow 13 = .ok (.goto 4, 3) := by decide +kernel
theorem dX8_flow_16 : decode cX8_flow 16 = .ok (.iconst 1, 1) := by decide +kernel
theorem dX8_flow_17 : decode cX8_flow 17 = .ok (.invokevirtual 145, 3) := by decide +kernel
theorem dX8_flow_20 : decode cX8_flow 20 = .ok (.ifCond .ne 5, 3) := by decide +kernel
theorem dX8_flow_23 : decode cX8_flow 23 = .ok (.iconst 0, 1) := by decide +kernel
theorem dX8_flow_24 : decode cX8_flow 24 = .ok (.ireturn, 1) := by decide +kernel
theorem dX8_flow_25 : decode cX8_flow 25 = .ok (.aload_n 0, 1) := by decide +kernel
theorem dX8_flow_26 : decode cX8_flow 26 = .ok (.getfield 7, 3) := by decide +kernel
theorem dX8_flow_29 : decode cX8_flow 29 = .ok (.istore_n 2, 1) := by decide +kernel
theorem dX8_flow_30 : decode cX8_flow 30 = .ok (.aload_n 0, 1) := by decide +kernel
theorem dX8_flow_31 : decode cX8_flow 31 = .ok (.iload_n 1, 1) := by decide +kernel
theorem dX8_flow_32 : decode cX8_flow 32 = .ok (.putfield 7, 3) := by decide +kernel
theorem dX8_flow_35 : decode cX8_flow 35 = .ok (.iload_n 2, 1) := by decide +kernel
theorem dX8_flow_36 : decode cX8_flow 36 = .ok (.ireturn, 1) := by decide +kernel
theorem dX8_miner_0 : decode cX8_miner 0 = .ok (.iload_n 1, 1) := by decide +kernel
theorem dX8_miner_1 : decode cX8_miner 1 = .ok (.iconst 0, 1) := by decide +kernel
theorem dX8_miner_2 : decode cX8_miner 2 = .ok (.sipush 1000, 3) := by decide +kernel
theorem dX8_miner_5 : decode cX8_miner 5 = .ok (.invokestatic 123, 3) := by decide +kernel
theorem dX8_miner_8 : decode cX8_miner 8 = .ok (.ifCond .eq 17, 3) := by decide +kernel
theorem dX8_miner_11 : decode cX8_miner 11 = .ok (.iload_n 2, 1) := by decide +kernel
theorem dX8_miner_12 : decode cX8_miner 12 = .ok (.iconst 0, 1) := by decide +kernel
theorem dX8_miner_13 : decode cX8_miner 13 = .ok (.ldc 133, 2) := by decide +kernel
theorem dX8_miner_15 : decode cX8_miner 15 = .ok (.invokestatic 123, 3) := by decide +kernel
theorem dX8_miner_18 : decode cX8_miner 18 = .ok (.ifCond .eq 7, 3) := by decide +kernel
theorem dX8_miner_21 : decode cX8_miner 21 = .ok (.iconst 1, 1) := by decide +kernel
theorem dX8_miner_22 : decode cX8_miner 22 = .ok (.goto 4, 3) := by decide +kernel
theorem dX8_miner_25 : decode cX8_miner 25 = .ok (.iconst 0, 1) := by decide +kernel
theorem dX8_miner_26 : decode cX8_miner 26 = .ok (.istore_n 3, 1) := by decide +kernel
theorem dX8_miner_27 : decode cX8_miner 27 = .ok (.aload_n 0, 1) := by decide +kernel
theorem dX8_miner_28 : decode cX8_miner 28 = .ok (.iload_n 3, 1) := by decide +kernel
theorem dX8_miner_29 : decode cX8_miner 29 = .ok (.ifCond .ne 7, 3) := by decide +kernel
theorem dX8_miner_32 : decode cX8_miner 32 = .ok (.iconst 1, 1) := by decide +kernel
theorem dX8_miner_33 : decode cX8_miner 33 = .ok (.goto 17, 3) := by decide +kernel
theorem dX8_miner_36 : decode cX8_miner 36 = .ok (.aload_n 0, 1) := by decide +kernel
theorem dX8_miner_37 : decode cX8_miner 37 = .ok (.getfield 127, 3) := by decide +kernel
theorem dX8_miner_40 : decode cX8_miner 40 = .ok (.bipush 12, 2) := by decide +kernel
theorem dX8_miner_42 : decode cX8_miner 42 = .ok (.if_icmp .ne 7, 3) := by decide +kernel
theorem dX8_miner_45 : decode cX8_miner 45 = .ok (.iconst 2, 1) := by decide +kernel
theorem dX8_miner_46 : decode cX8_miner 46 = .ok (.goto 4, 3) := by decide +kernel
theorem dX8_miner_49 : decode cX8_miner 49 = .ok (.iconst 0, 1) := by decide +kernel
theorem dX8_miner_50 : decode cX8_miner 50 = .ok (.invokevirtual 145, 3) := by decide +kernel
theorem dX8_miner_53 : decode cX8_miner 53 = .ok (.ifCond .ne 5, 3) := by decide +kernel
theorem dX8_miner_56 : decode cX8_miner 56 = .ok (.iconst 0, 1) := by decide +kernel
theorem dX8_miner_57 : decode cX8_miner 57 = .ok (.ireturn, 1) := by decide +kernel
theorem dX8_miner_58 : decode cX8_miner 58 = .ok (.aload_n 0, 1) := by decide +kernel
theorem dX8_miner_59 : decode cX8_miner 59 = .ok (.getfield 41, 3) := by decide +kernel
theorem dX8_miner_62 : decode cX8_miner 62 = .ok (.aload_n 0, 1) := by decide +kernel
theorem dX8_miner_63 : decode cX8_miner 63 = .ok (.getfield 127, 3) := by decide +kernel
theorem dX8_miner_66 : decode cX8_miner 66 = .ok (.iload_n 1, 1) := by decide +kernel
theorem dX8_miner_67 : decode cX8_miner 67 = .ok (.iastore, 1) := by decide +kernel
theorem dX8_miner_68 : decode cX8_miner 68 = .ok (.aload_n 0, 1) := by decide +kernel
theorem dX8_miner_69 : decode cX8_miner 69 = .ok (.getfield 44, 3) := by decide +kernel
theorem dX8_miner_72 : decode cX8_miner 72 = .ok (.aload_n 0, 1) := by decide +kernel
theorem dX8_miner_73 : decode cX8_miner 73 = .ok (.getfield 127, 3) := by decide +kernel
theorem dX8_miner_76 : decode cX8_miner 76 = .ok (.iload_n 2, 1) := by decide +kernel
theorem dX8_miner_77 : decode cX8_miner 77 = .ok (.iastore, 1) := by decide +kernel
theorem dX8_miner_78 : decode cX8_miner 78 = .ok (.aload_n 0, 1) := by decide +kernel
theorem dX8_miner_79 : decode cX8_miner 79 = .ok (.getfield 47, 3) := by decide +kernel
theorem dX8_miner_82 : decode cX8_miner 82 = .ok (.aload_n 0, 1) := by decide +kernel
theorem dX8_miner_83 : decode cX8_miner 83 = .ok (.getfield 127, 3) := by decide +kernel
theorem dX8_miner_86 : decode cX8_miner 86 = .ok (.bipush 10, 2) := by decide +kernel
theorem dX8_miner_88 : decode cX8_miner 88 = .ok (.iastore, 1) := by decide +kernel
theorem dX8_miner_89 : decode cX8_miner 89 = .ok (.aload_n 0, 1) := by decide +kernel
theorem dX8_miner_90 : decode cX8_miner 90 = .ok (.getfield 53, 3) := by decide +kernel
theorem dX8_miner_93 : decode cX8_miner 93 = .ok (.aload_n 0, 1) := by decide +kernel
theorem dX8_miner_94 : decode cX8_miner 94 = .ok (.getfield 127, 3) := by decide +kernel
theorem dX8_miner_97 : decode cX8_miner 97 = .ok (.iconst (-1), 1) := by decide +kernel
theorem dX8_miner_98 : decode cX8_miner 98 = .ok (.iastore, 1) := by decide +kernel
theorem dX8_miner_99 : decode cX8_miner 99 = .ok (.aload_n 0, 1) := by decide +kernel
theorem dX8_miner_100 : decode cX8_miner 100 = .ok (.dup, 1) := by decide +kernel
theorem dX8_miner_101 : decode cX8_miner 101 = .ok (.getfield 127, 3) := by decide +kernel
theorem dX8_miner_104 : decode cX8_miner 104 = .ok (.iconst 1, 1) := by decide +kernel
theorem dX8_miner_105 : decode cX8_miner 105 = .ok (.iadd, 1) := by decide +kernel
theorem dX8_miner_106 : decode cX8_miner 106 = .ok (.putfield 127, 3) := by decide +kernel
theorem dX8_miner_109 : decode cX8_miner 109 = .ok (.aload_n 0, 1) := by decide +kernel
theorem dX8_miner_110 : decode cX8_miner 110 = .ok (.getfield 127, 3) := by decide +kernel
theorem dX8_miner_113 : decode cX8_miner 113 = .ok (.iconst 1, 1) := by decide +kernel
theorem dX8_miner_114 : decode cX8_miner 114 = .ok (.isub, 1) := by decide +kernel
theorem dX8_miner_115 : decode cX8_miner 115 = .ok (.ireturn, 1) := by decide +kernel
theorem dX8_eats_0 : decode cX8_eats 0 = .ok (.aload_n 0, 1) := by decide +kernel
theorem dX8_eats_1 : decode cX8_eats 1 = .ok (.getfield 41, 3) := by decide +kernel
theorem dX8_eats_4 : decode cX8_eats 4 = .ok (.iload_n 1, 1) := by decide +kernel
theorem dX8_eats_5 : decode cX8_eats 5 = .ok (.iaload, 1) := by decide +kernel
theorem dX8_eats_6 : decode cX8_eats 6 = .ok (.ifCond .le 35, 3) := by decide +kernel
theorem dX8_eats_9 : decode cX8_eats 9 = .ok (.aload_n 0, 1) := by decide +kernel
theorem dX8_eats_10 : decode cX8_eats 10 = .ok (.getfield 41, 3) := by decide +kernel
theorem dX8_eats_13 : decode cX8_eats 13 = .ok (.iload_n 1, 1) := by decide +kernel
theorem dX8_eats_14 : decode cX8_eats 14 = .ok (.dup2, 1) := by decide +kernel
theorem dX8_eats_15 : decode cX8_eats 15 = .ok (.iaload, 1) := by decide +kernel
theorem dX8_eats_16 : decode cX8_eats 16 = .ok (.iconst 1, 1) := by decide +kernel
theorem dX8_eats_17 : decode cX8_eats 17 = .ok (.isub, 1) := by decide +kernel
theorem dX8_eats_18 : decode cX8_eats 18 = .ok (.iastore, 1) := by decide +kernel
theorem dX8_eats_19 : decode cX8_eats 19 = .ok (.aload_n 0, 1) := by decide +kernel
theorem dX8_eats_20 : decode cX8_eats 20 = .ok (.getfield 47, 3) := by decide +kernel
theorem dX8_eats_23 : decode cX8_eats 23 = .ok (.iload_n 1, 1) := by decide +kernel
theorem dX8_eats_24 : decode cX8_eats 24 = .ok (.aload_n 0, 1) := by decide +kernel
theorem dX8_eats_25 : decode cX8_eats 25 = .ok (.getfield 47, 3) := by decide +kernel
theorem dX8_eats_28 : decode cX8_eats 28 = .ok (.iload_n 1, 1) := by decide +kernel
theorem dX8_eats_29 : decode cX8_eats 29 = .ok (.iaload, 1) := by decide +kernel
theorem dX8_eats_30 : decode cX8_eats 30 = .ok (.iconst 1, 1) := by decide +kernel
theorem dX8_eats_31 : decode cX8_eats 31 = .ok (.iadd, 1) := by decide +kernel
theorem dX8_eats_32 : decode cX8_eats 32 = .ok (.bipush 10, 2) := by decide +kernel
theorem dX8_eats_34 : decode cX8_eats 34 = .ok (.invokestatic 148, 3) := by decide +kernel
theorem dX8_eats_37 : decode cX8_eats 37 = .ok (.iastore, 1) := by decide +kernel
theorem dX8_eats_38 : decode cX8_eats 38 = .ok (.goto 31, 3) := by decide +kernel
theorem dX8_eats_41 : decode cX8_eats 41 = .ok (.aload_n 0, 1) := by decide +kernel
theorem dX8_eats_42 : decode cX8_eats 42 = .ok (.getfield 47, 3) := by decide +kernel
theorem dX8_eats_45 : decode cX8_eats 45 = .ok (.iload_n 1, 1) := by decide +kernel
theorem dX8_eats_46 : decode cX8_eats 46 = .ok (.aload_n 0, 1) := by decide +kernel
theorem dX8_eats_47 : decode cX8_eats 47 = .ok (.getfield 47, 3) := by decide +kernel
theorem dX8_eats_50 : decode cX8_eats 50 = .ok (.iload_n 1, 1) := by decide +kernel
theorem dX8_eats_51 : decode cX8_eats 51 = .ok (.iaload, 1) := by decide +kernel
theorem dX8_eats_52 : decode cX8_eats 52 = .ok (.iconst 2, 1) := by decide +kernel
theorem dX8_eats_53 : decode cX8_eats 53 = .ok (.if_icmp .ge 7, 3) := by decide +kernel
theorem dX8_eats_56 : decode cX8_eats 56 = .ok (.iconst 0, 1) := by decide +kernel
theorem dX8_eats_57 : decode cX8_eats 57 = .ok (.goto 11, 3) := by decide +kernel
theorem dX8_eats_60 : decode cX8_eats 60 = .ok (.aload_n 0, 1) := by decide +kernel
theorem dX8_eats_61 : decode cX8_eats 61 = .ok (.getfield 47, 3) := by decide +kernel
theorem dX8_eats_64 : decode cX8_eats 64 = .ok (.iload_n 1, 1) := by decide +kernel
theorem dX8_eats_65 : decode cX8_eats 65 = .ok (.iaload, 1) := by decide +kernel
theorem dX8_eats_66 : decode cX8_eats 66 = .ok (.iconst 2, 1) := by decide +kernel
theorem dX8_eats_67 : decode cX8_eats 67 = .ok (.isub, 1) := by decide +kernel
theorem dX8_eats_68 : decode cX8_eats 68 = .ok (.iastore, 1) := by decide +kernel
theorem dX8_eats_69 : decode cX8_eats 69 = .ok (.return_, 1) := by decide +kernel
theorem dX8_arrives_0 : decode cX8_arrives 0 = .ok (.iconst 0, 1) := by decide +kernel
theorem dX8_arrives_1 : decode cX8_arrives 1 = .ok (.istore_n 1, 1) := by decide +kernel
theorem dX8_arrives_2 : decode cX8_arrives 2 = .ok (.iconst 0, 1) := by decide +kernel
theorem dX8_arrives_3 : decode cX8_arrives 3 = .ok (.istore_n 2, 1) := by decide +kernel
theorem dX8_arrives_4 : decode cX8_arrives 4 = .ok (.iload_n 2, 1) := by decide +kernel
theorem dX8_arrives_5 : decode cX8_arrives 5 = .ok (.aload_n 0, 1) := by decide +kernel
theorem dX8_arrives_6 : decode cX8_arrives 6 = .ok (.getfield 152, 3) := by decide +kernel
theorem dX8_arrives_9 : decode cX8_arrives 9 = .ok (.if_icmp .ge 67, 3) := by decide +kernel
theorem dX8_arrives_12 : decode cX8_arrives 12 = .ok (.aload_n 0, 1) := by decide +kernel
theorem dX8_arrives_13 : decode cX8_arrives 13 = .ok (.getfield 102, 3) := by decide +kernel
theorem dX8_arrives_16 : decode cX8_arrives 16 = .ok (.iload_n 2, 1) := by decide +kernel
theorem dX8_arrives_17 : decode cX8_arrives 17 = .ok (.iaload, 1) := by decide +kernel
theorem dX8_arrives_18 : decode cX8_arrives 18 = .ok (.aload_n 0, 1) := by decide +kernel
theorem dX8_arrives_19 : decode cX8_arrives 19 = .ok (.getfield 138, 3) := by decide +kernel
theorem dX8_arrives_22 : decode cX8_arrives 22 = .ok (.if_icmp .ne 21, 3) := by decide +kernel
theorem dX8_arrives_25 : decode cX8_arrives 25 = .ok (.aload_n 0, 1) := by decide +kernel
theorem dX8_arrives_26 : decode cX8_arrives 26 = .ok (.dup, 1) := by decide +kernel
theorem dX8_arrives_27 : decode cX8_arrives 27 = .ok (.getfield 22, 3) := by decide +kernel
theorem dX8_arrives_30 : decode cX8_arrives 30 = .ok (.aload_n 0, 1) := by decide +kernel
theorem dX8_arrives_31 : decode cX8_arrives 31 = .ok (.getfield 99, 3) := by decide +kernel
theorem dX8_arrives_34 : decode cX8_arrives 34 = .ok (.iload_n 2, 1) := by decide +kernel
theorem dX8_arrives_35 : decode cX8_arrives 35 = .ok (.iaload, 1) := by decide +kernel
theorem dX8_arrives_36 : decode cX8_arrives 36 = .ok (.iadd, 1) := by decide +kernel
theorem dX8_arrives_37 : decode cX8_arrives 37 = .ok (.putfield 22, 3) := by decide +kernel
theorem dX8_arrives_40 : decode cX8_arrives 40 = .ok (.goto 30, 3) := by decide +kernel
theorem dX8_arrives_43 : decode cX8_arrives 43 = .ok (.aload_n 0, 1) := by decide +kernel
theorem dX8_arrives_44 : decode cX8_arrives 44 = .ok (.getfield 99, 3) := by decide +kernel
theorem dX8_arrives_47 : decode cX8_arrives 47 = .ok (.iload_n 1, 1) := by decide +kernel
theorem dX8_arrives_48 : decode cX8_arrives 48 = .ok (.aload_n 0, 1) := by decide +kernel
theorem dX8_arrives_49 : decode cX8_arrives 49 = .ok (.getfield 99, 3) := by decide +kernel
theorem dX8_arrives_52 : decode cX8_arrives 52 = .ok (.iload_n 2, 1) := by decide +kernel
theorem dX8_arrives_53 : decode cX8_arrives 53 = .ok (.iaload, 1) := by decide +kernel
theorem dX8_arrives_54 : decode cX8_arrives 54 = .ok (.iastore, 1) := by decide +kernel
theorem dX8_arrives_55 : decode cX8_arrives 55 = .ok (.aload_n 0, 1) := by decide +kernel
theorem dX8_arrives_56 : decode cX8_arrives 56 = .ok (.getfield 102, 3) := by decide +kernel
theorem dX8_arrives_59 : decode cX8_arrives 59 = .ok (.iload_n 1, 1) := by decide +kernel
theorem dX8_arrives_60 : decode cX8_arrives 60 = .ok (.aload_n 0, 1) := by decide +kernel
theorem dX8_arrives_61 : decode cX8_arrives 61 = .ok (.getfield 102, 3) := by decide +kernel
theorem dX8_arrives_64 : decode cX8_arrives 64 = .ok (.iload_n 2, 1) := by decide +kernel
theorem dX8_arrives_65 : decode cX8_arrives 65 = .ok (.iaload, 1) := by decide +kernel
theorem dX8_arrives_66 : decode cX8_arrives 66 = .ok (.iastore, 1) := by decide +kernel
theorem dX8_arrives_67 : decode cX8_arrives 67 = .ok (.iinc 1 1, 3) := by decide +kernel
theorem dX8_arrives_70 : decode cX8_arrives 70 = .ok (.iinc 2 1, 3) := by decide +kernel
theorem dX8_arrives_73 : decode cX8_arrives 73 = .ok (.goto (-69), 3) := by decide +kernel
theorem dX8_arrives_76 : decode cX8_arrives 76 = .ok (.aload_n 0, 1) := by decide +kernel
theorem dX8_arrives_77 : decode cX8_arrives 77 = .ok (.iload_n 1, 1) := by decide +kernel
theorem dX8_arrives_78 : decode cX8_arrives 78 = .ok (.putfield 152, 3) := by decide +kernel
theorem dX8_arrives_81 : decode cX8_arrives 81 = .ok (.return_, 1) := by decide +kernel
theorem dX8_goesBy_0 : decode cX8_goesBy 0 = .ok (.aload_n 0, 1) := by decide +kernel
theorem dX8_goesBy_1 : decode cX8_goesBy 1 = .ok (.dup, 1) := by decide +kernel
theorem dX8_goesBy_2 : decode cX8_goesBy 2 = .ok (.getfield 138, 3) := by decide +kernel
theorem dX8_goesBy_5 : decode cX8_goesBy 5 = .ok (.iconst 1, 1) := by decide +kernel
theorem dX8_goesBy_6 : decode cX8_goesBy 6 = .ok (.iadd, 1) := by decide +kernel
theorem dX8_goesBy_7 : decode cX8_goesBy 7 = .ok (.putfield 138, 3) := by decide +kernel
theorem dX8_goesBy_10 : decode cX8_goesBy 10 = .ok (.iconst 0, 1) := by decide +kernel
theorem dX8_goesBy_11 : decode cX8_goesBy 11 = .ok (.istore_n 1, 1) := by decide +kernel
theorem dX8_goesBy_12 : decode cX8_goesBy 12 = .ok (.iload_n 1, 1) := by decide +kernel
theorem dX8_goesBy_13 : decode cX8_goesBy 13 = .ok (.aload_n 0, 1) := by decide +kernel
theorem dX8_goesBy_14 : decode cX8_goesBy 14 = .ok (.getfield 127, 3) := by decide +kernel
theorem dX8_goesBy_17 : decode cX8_goesBy 17 = .ok (.if_icmp .ge 22, 3) := by decide +kernel
theorem dX8_goesBy_20 : decode cX8_goesBy 20 = .ok (.aload_n 0, 1) := by decide +kernel
theorem dX8_goesBy_21 : decode cX8_goesBy 21 = .ok (.iload_n 1, 1) := by decide +kernel
theorem dX8_goesBy_22 : decode cX8_goesBy 22 = .ok (.invokevirtual 155, 3) := by decide +kernel
theorem dX8_goesBy_25 : decode cX8_goesBy 25 = .ok (.ifCond .ne 8, 3) := by decide +kernel
theorem dX8_goesBy_28 : decode cX8_goesBy 28 = .ok (.aload_n 0, 1) := by decide +kernel
theorem dX8_goesBy_29 : decode cX8_goesBy 29 = .ok (.iload_n 1, 1) := by decide +kernel
theorem dX8_goesBy_30 : decode cX8_goesBy 30 = .ok (.invokevirtual 158, 3) := by decide +kernel
theorem dX8_goesBy_33 : decode cX8_goesBy 33 = .ok (.iinc 1 1, 3) := by decide +kernel
theorem dX8_goesBy_36 : decode cX8_goesBy 36 = .ok (.goto (-24), 3) := by decide +kernel
theorem dX8_goesBy_39 : decode cX8_goesBy 39 = .ok (.aload_n 0, 1) := by decide +kernel
theorem dX8_goesBy_40 : decode cX8_goesBy 40 = .ok (.invokevirtual 162, 3) := by decide +kernel
theorem dX8_goesBy_43 : decode cX8_goesBy 43 = .ok (.iconst 0, 1) := by decide +kernel
theorem dX8_goesBy_44 : decode cX8_goesBy 44 = .ok (.istore_n 1, 1) := by decide +kernel
theorem dX8_goesBy_45 : decode cX8_goesBy 45 = .ok (.iload_n 1, 1) := by decide +kernel
theorem dX8_goesBy_46 : decode cX8_goesBy 46 = .ok (.bipush 40, 2) := by decide +kernel
theorem dX8_goesBy_48 : decode cX8_goesBy 48 = .ok (.if_icmp .ge 49, 3) := by decide +kernel
theorem dX8_goesBy_51 : decode cX8_goesBy 51 = .ok (.aload_n 0, 1) := by decide +kernel
theorem dX8_goesBy_52 : decode cX8_goesBy 52 = .ok (.getfield 32, 3) := by decide +kernel
theorem dX8_goesBy_55 : decode cX8_goesBy 55 = .ok (.iload_n 1, 1) := by decide +kernel
theorem dX8_goesBy_56 : decode cX8_goesBy 56 = .ok (.iaload, 1) := by decide +kernel
theorem dX8_goesBy_57 : decode cX8_goesBy 57 = .ok (.bipush 10, 2) := by decide +kernel
theorem dX8_goesBy_59 : decode cX8_goesBy 59 = .ok (.idiv, 1) := by decide +kernel
theorem dX8_goesBy_60 : decode cX8_goesBy 60 = .ok (.iconst 1, 1) := by decide +kernel
theorem dX8_goesBy_61 : decode cX8_goesBy 61 = .ok (.iadd, 1) := by decide +kernel
theorem dX8_goesBy_62 : decode cX8_goesBy 62 = .ok (.istore_n 2, 1) := by decide +kernel
theorem dX8_goesBy_63 : decode cX8_goesBy 63 = .ok (.aload_n 0, 1) := by decide +kernel
theorem dX8_goesBy_64 : decode cX8_goesBy 64 = .ok (.getfield 32, 3) := by decide +kernel
theorem dX8_goesBy_67 : decode cX8_goesBy 67 = .ok (.iload_n 1, 1) := by decide +kernel
theorem dX8_goesBy_68 : decode cX8_goesBy 68 = .ok (.aload_n 0, 1) := by decide +kernel
theorem dX8_goesBy_69 : decode cX8_goesBy 69 = .ok (.getfield 32, 3) := by decide +kernel
theorem dX8_goesBy_72 : decode cX8_goesBy 72 = .ok (.iload_n 1, 1) := by decide +kernel
theorem dX8_goesBy_73 : decode cX8_goesBy 73 = .ok (.iaload, 1) := by decide +kernel
theorem dX8_goesBy_74 : decode cX8_goesBy 74 = .ok (.iload_n 2, 1) := by decide +kernel
theorem dX8_goesBy_75 : decode cX8_goesBy 75 = .ok (.if_icmp .ge 7, 3) := by decide +kernel
theorem dX8_goesBy_78 : decode cX8_goesBy 78 = .ok (.iconst 0, 1) := by decide +kernel
theorem dX8_goesBy_79 : decode cX8_goesBy 79 = .ok (.goto 11, 3) := by decide +kernel
theorem dX8_goesBy_82 : decode cX8_goesBy 82 = .ok (.aload_n 0, 1) := by decide +kernel
theorem dX8_goesBy_83 : decode cX8_goesBy 83 = .ok (.getfield 32, 3) := by decide +kernel
theorem dX8_goesBy_86 : decode cX8_goesBy 86 = .ok (.iload_n 1, 1) := by decide +kernel
theorem dX8_goesBy_87 : decode cX8_goesBy 87 = .ok (.iaload, 1) := by decide +kernel
theorem dX8_goesBy_88 : decode cX8_goesBy 88 = .ok (.iload_n 2, 1) := by decide +kernel
theorem dX8_goesBy_89 : decode cX8_goesBy 89 = .ok (.isub, 1) := by decide +kernel
theorem dX8_goesBy_90 : decode cX8_goesBy 90 = .ok (.iastore, 1) := by decide +kernel
theorem dX8_goesBy_91 : decode cX8_goesBy 91 = .ok (.iinc 1 1, 3) := by decide +kernel
theorem dX8_goesBy_94 : decode cX8_goesBy 94 = .ok (.goto (-49), 3) := by decide +kernel
theorem dX8_goesBy_97 : decode cX8_goesBy 97 = .ok (.iconst 0, 1) := by decide +kernel
theorem dX8_goesBy_98 : decode cX8_goesBy 98 = .ok (.istore_n 1, 1) := by decide +kernel
theorem dX8_goesBy_99 : decode cX8_goesBy 99 = .ok (.iload_n 1, 1) := by decide +kernel
theorem dX8_goesBy_100 : decode cX8_goesBy 100 = .ok (.aload_n 0, 1) := by decide +kernel
theorem dX8_goesBy_101 : decode cX8_goesBy 101 = .ok (.getfield 130, 3) := by decide +kernel
theorem dX8_goesBy_104 : decode cX8_goesBy 104 = .ok (.if_icmp .ge 62, 3) := by decide +kernel
theorem dX8_goesBy_107 : decode cX8_goesBy 107 = .ok (.aload_n 0, 1) := by decide +kernel
theorem dX8_goesBy_108 : decode cX8_goesBy 108 = .ok (.getfield 68, 3) := by decide +kernel
theorem dX8_goesBy_111 : decode cX8_goesBy 111 = .ok (.iload_n 1, 1) := by decide +kernel
theorem dX8_goesBy_112 : decode cX8_goesBy 112 = .ok (.aload_n 0, 1) := by decide +kernel
theorem dX8_goesBy_113 : decode cX8_goesBy 113 = .ok (.getfield 68, 3) := by decide +kernel
theorem dX8_goesBy_116 : decode cX8_goesBy 116 = .ok (.iload_n 1, 1) := by decide +kernel
theorem dX8_goesBy_117 : decode cX8_goesBy 117 = .ok (.baload, 1) := by decide +kernel
theorem dX8_goesBy_118 : decode cX8_goesBy 118 = .ok (.ifCond .eq 40, 3) := by decide +kernel
theorem dX8_goesBy_121 : decode cX8_goesBy 121 = .ok (.aload_n 0, 1) := by decide +kernel
theorem dX8_goesBy_122 : decode cX8_goesBy 122 = .ok (.aload_n 0, 1) := by decide +kernel
theorem dX8_goesBy_123 : decode cX8_goesBy 123 = .ok (.getfield 59, 3) := by decide +kernel
theorem dX8_goesBy_126 : decode cX8_goesBy 126 = .ok (.iload_n 1, 1) := by decide +kernel
theorem dX8_goesBy_127 : decode cX8_goesBy 127 = .ok (.iaload, 1) := by decide +kernel
theorem dX8_goesBy_128 : decode cX8_goesBy 128 = .ok (.invokevirtual 155, 3) := by decide +kernel
theorem dX8_goesBy_131 : decode cX8_goesBy 131 = .ok (.ifCond .ne 27, 3) := by decide +kernel
theorem dX8_goesBy_134 : decode cX8_goesBy 134 = .ok (.aload_n 0, 1) := by decide +kernel
theorem dX8_goesBy_135 : decode cX8_goesBy 135 = .ok (.getfield 138, 3) := by decide +kernel
theorem dX8_goesBy_138 : decode cX8_goesBy 138 = .ok (.aload_n 0, 1) := by decide +kernel
theorem dX8_goesBy_139 : decode cX8_goesBy 139 = .ok (.getfield 72, 3) := by decide +kernel
theorem dX8_goesBy_142 : decode cX8_goesBy 142 = .ok (.iload_n 1, 1) := by decide +kernel
theorem dX8_goesBy_143 : decode cX8_goesBy 143 = .ok (.iaload, 1) := by decide +kernel
theorem dX8_goesBy_144 : decode cX8_goesBy 144 = .ok (.isub, 1) := by decide +kernel
theorem dX8_goesBy_145 : decode cX8_goesBy 145 = .ok (.aload_n 0, 1) := by decide +kernel
theorem dX8_goesBy_146 : decode cX8_goesBy 146 = .ok (.getfield 75, 3) := by decide +kernel
theorem dX8_goesBy_149 : decode cX8_goesBy 149 = .ok (.iload_n 1, 1) := by decide +kernel
theorem dX8_goesBy_150 : decode cX8_goesBy 150 = .ok (.iaload, 1) := by decide +kernel
theorem dX8_goesBy_151 : decode cX8_goesBy 151 = .ok (.if_icmp .gt 7, 3) := by decide +kernel
theorem dX8_goesBy_154 : decode cX8_goesBy 154 = .ok (.iconst 1, 1) := by decide +kernel
theorem dX8_goesBy_155 : decode cX8_goesBy 155 = .ok (.goto 4, 3) := by decide +kernel
theorem dX8_goesBy_158 : decode cX8_goesBy 158 = .ok (.iconst 0, 1) := by decide +kernel
theorem dX8_goesBy_159 : decode cX8_goesBy 159 = .ok (.bastore, 1) := by decide +kernel
theorem dX8_goesBy_160 : decode cX8_goesBy 160 = .ok (.iinc 1 1, 3) := by decide +kernel
theorem dX8_goesBy_163 : decode cX8_goesBy 163 = .ok (.goto (-64), 3) := by decide +kernel
theorem dX8_goesBy_166 : decode cX8_goesBy 166 = .ok (.return_, 1) := by decide +kernel
theorem dX8_pass_0 : decode cX8_pass 0 = .ok (.iload_n 1, 1) := by decide +kernel
theorem dX8_pass_1 : decode cX8_pass 1 = .ok (.iconst 1, 1) := by decide +kernel
theorem dX8_pass_2 : decode cX8_pass 2 = .ok (.sipush 200, 3) := by decide +kernel
theorem dX8_pass_5 : decode cX8_pass 5 = .ok (.invokestatic 123, 3) := by decide +kernel
theorem dX8_pass_8 : decode cX8_pass 8 = .ok (.istore_n 2, 1) := by decide +kernel
theorem dX8_pass_9 : decode cX8_pass 9 = .ok (.aload_n 0, 1) := by decide +kernel
theorem dX8_pass_10 : decode cX8_pass 10 = .ok (.iload_n 2, 1) := by decide +kernel
theorem dX8_pass_11 : decode cX8_pass 11 = .ok (.ifCond .ne 7, 3) := by decide +kernel
theorem dX8_pass_14 : decode cX8_pass 14 = .ok (.iconst 1, 1) := by decide +kernel
theorem dX8_pass_15 : decode cX8_pass 15 = .ok (.goto 20, 3) := by decide +kernel
theorem dX8_pass_18 : decode cX8_pass 18 = .ok (.aload_n 0, 1) := by decide +kernel
theorem dX8_pass_19 : decode cX8_pass 19 = .ok (.getfield 138, 3) := by decide +kernel
theorem dX8_pass_22 : decode cX8_pass 22 = .ok (.iload_n 1, 1) := by decide +kernel
theorem dX8_pass_23 : decode cX8_pass 23 = .ok (.iadd, 1) := by decide +kernel
theorem dX8_pass_24 : decode cX8_pass 24 = .ok (.sipush 5000, 3) := by decide +kernel
theorem dX8_pass_27 : decode cX8_pass 27 = .ok (.if_icmp .le 7, 3) := by decide +kernel
theorem dX8_pass_30 : decode cX8_pass 30 = .ok (.iconst 2, 1) := by decide +kernel
theorem dX8_pass_31 : decode cX8_pass 31 = .ok (.goto 4, 3) := by decide +kernel
theorem dX8_pass_34 : decode cX8_pass 34 = .ok (.iconst 0, 1) := by decide +kernel
theorem dX8_pass_35 : decode cX8_pass 35 = .ok (.invokevirtual 145, 3) := by decide +kernel
theorem dX8_pass_38 : decode cX8_pass 38 = .ok (.ifCond .ne 5, 3) := by decide +kernel
theorem dX8_pass_41 : decode cX8_pass 41 = .ok (.iconst 0, 1) := by decide +kernel
theorem dX8_pass_42 : decode cX8_pass 42 = .ok (.ireturn, 1) := by decide +kernel
theorem dX8_pass_43 : decode cX8_pass 43 = .ok (.iconst 0, 1) := by decide +kernel
theorem dX8_pass_44 : decode cX8_pass 44 = .ok (.istore_n 3, 1) := by decide +kernel
theorem dX8_pass_45 : decode cX8_pass 45 = .ok (.iload_n 3, 1) := by decide +kernel
theorem dX8_pass_46 : decode cX8_pass 46 = .ok (.iload_n 1, 1) := by decide +kernel
theorem dX8_pass_47 : decode cX8_pass 47 = .ok (.if_icmp .ge 13, 3) := by decide +kernel
theorem dX8_pass_50 : decode cX8_pass 50 = .ok (.aload_n 0, 1) := by decide +kernel
theorem dX8_pass_51 : decode cX8_pass 51 = .ok (.invokevirtual 165, 3) := by decide +kernel
theorem dX8_pass_54 : decode cX8_pass 54 = .ok (.iinc 3 1, 3) := by decide +kernel
theorem dX8_pass_57 : decode cX8_pass 57 = .ok (.goto (-12), 3) := by decide +kernel
theorem dX8_pass_60 : decode cX8_pass 60 = .ok (.aload_n 0, 1) := by decide +kernel
theorem dX8_pass_61 : decode cX8_pass 61 = .ok (.getfield 138, 3) := by decide +kernel
theorem dX8_pass_64 : decode cX8_pass 64 = .ok (.ireturn, 1) := by decide +kernel
theorem dX8_living_0 : decode cX8_living 0 = .ok (.iconst 0, 1) := by decide +kernel
theorem dX8_living_1 : decode cX8_living 1 = .ok (.istore_n 1, 1) := by decide +kernel
theorem dX8_living_2 : decode cX8_living 2 = .ok (.iconst 0, 1) := by decide +kernel
theorem dX8_living_3 : decode cX8_living 3 = .ok (.istore_n 2, 1) := by decide +kernel
theorem dX8_living_4 : decode cX8_living 4 = .ok (.iload_n 2, 1) := by decide +kernel
theorem dX8_living_5 : decode cX8_living 5 = .ok (.aload_n 0, 1) := by decide +kernel
theorem dX8_living_6 : decode cX8_living 6 = .ok (.getfield 127, 3) := by decide +kernel
theorem dX8_living_9 : decode cX8_living 9 = .ok (.if_icmp .ge 25, 3) := by decide +kernel
theorem dX8_living_12 : decode cX8_living 12 = .ok (.iload_n 1, 1) := by decide +kernel
theorem dX8_living_13 : decode cX8_living 13 = .ok (.aload_n 0, 1) := by decide +kernel
theorem dX8_living_14 : decode cX8_living 14 = .ok (.iload_n 2, 1) := by decide +kernel
theorem dX8_living_15 : decode cX8_living 15 = .ok (.invokevirtual 155, 3) := by decide +kernel
theorem dX8_living_18 : decode cX8_living 18 = .ok (.ifCond .eq 7, 3) := by decide +kernel
theorem dX8_living_21 : decode cX8_living 21 = .ok (.iconst 0, 1) := by decide +kernel
theorem dX8_living_22 : decode cX8_living 22 = .ok (.goto 4, 3) := by decide +kernel
theorem dX8_living_25 : decode cX8_living 25 = .ok (.iconst 1, 1) := by decide +kernel
theorem dX8_living_26 : decode cX8_living 26 = .ok (.iadd, 1) := by decide +kernel
theorem dX8_living_27 : decode cX8_living 27 = .ok (.istore_n 1, 1) := by decide +kernel
theorem dX8_living_28 : decode cX8_living 28 = .ok (.iinc 2 1, 3) := by decide +kernel
theorem dX8_living_31 : decode cX8_living 31 = .ok (.goto (-27), 3) := by decide +kernel
theorem dX8_living_34 : decode cX8_living 34 = .ok (.iload_n 1, 1) := by decide +kernel
theorem dX8_living_35 : decode cX8_living 35 = .ok (.ireturn, 1) := by decide +kernel
theorem dX8_meet_0 : decode cX8_meet 0 = .ok (.iload_n 1, 1) := by decide +kernel
theorem dX8_meet_1 : decode cX8_meet 1 = .ok (.iconst 1, 1) := by decide +kernel
theorem dX8_meet_2 : decode cX8_meet 2 = .ok (.bipush 10, 2) := by decide +kernel
theorem dX8_meet_4 : decode cX8_meet 4 = .ok (.invokestatic 123, 3) := by decide +kernel
theorem dX8_meet_7 : decode cX8_meet 7 = .ok (.ifCond .eq 38, 3) := by decide +kernel
theorem dX8_meet_10 : decode cX8_meet 10 = .ok (.iload_n 2, 1) := by decide +kernel
theorem dX8_meet_11 : decode cX8_meet 11 = .ok (.iconst 1, 1) := by decide +kernel
theorem dX8_meet_12 : decode cX8_meet 12 = .ok (.bipush 100, 2) := by decide +kernel
theorem dX8_meet_14 : decode cX8_meet 14 = .ok (.invokestatic 123, 3) := by decide +kernel
theorem dX8_meet_17 : decode cX8_meet 17 = .ok (.ifCond .eq 28, 3) := by decide +kernel
theorem dX8_meet_20 : decode cX8_meet 20 = .ok (.iload_n 3, 1) := by decide +kernel
theorem dX8_meet_21 : decode cX8_meet 21 = .ok (.iconst 0, 1) := by decide +kernel
theorem dX8_meet_22 : decode cX8_meet 22 = .ok (.bipush 12, 2) := by decide +kernel
theorem dX8_meet_24 : decode cX8_meet 24 = .ok (.invokestatic 123, 3) := by decide +kernel
theorem dX8_meet_27 : decode cX8_meet 27 = .ok (.ifCond .eq 18, 3) := by decide +kernel
theorem dX8_meet_30 : decode cX8_meet 30 = .ok (.iload 4, 2) := by decide +kernel
theorem dX8_meet_32 : decode cX8_meet 32 = .ok (.iconst 0, 1) := by decide +kernel
theorem dX8_meet_33 : decode cX8_meet 33 = .ok (.bipush 12, 2) := by decide +kernel
theorem dX8_meet_35 : decode cX8_meet 35 = .ok (.invokestatic 123, 3) := by decide +kernel
theorem dX8_meet_38 : decode cX8_meet 38 = .ok (.ifCond .eq 7, 3) := by decide +kernel
theorem dX8_meet_41 : decode cX8_meet 41 = .ok (.iconst 1, 1) := by decide +kernel
theorem dX8_meet_42 : decode cX8_meet 42 = .ok (.goto 4, 3) := by decide +kernel
theorem dX8_meet_45 : decode cX8_meet 45 = .ok (.iconst 0, 1) := by decide +kernel
theorem dX8_meet_46 : decode cX8_meet 46 = .ok (.istore 5, 2) := by decide +kernel
theorem dX8_meet_48 : decode cX8_meet 48 = .ok (.aload_n 0, 1) := by decide +kernel
theorem dX8_meet_49 : decode cX8_meet 49 = .ok (.iload 5, 2) := by decide +kernel
theorem dX8_meet_51 : decode cX8_meet 51 = .ok (.ifCond .eq 18, 3) := by decide +kernel
theorem dX8_meet_54 : decode cX8_meet 54 = .ok (.iload_n 3, 1) := by decide +kernel
theorem dX8_meet_55 : decode cX8_meet 55 = .ok (.iload 4, 2) := by decide +kernel
theorem dX8_meet_57 : decode cX8_meet 57 = .ok (.iadd, 1) := by decide +kernel
theorem dX8_meet_58 : decode cX8_meet 58 = .ok (.aload_n 0, 1) := by decide +kernel
theorem dX8_meet_59 : decode cX8_meet 59 = .ok (.invokevirtual 168, 3) := by decide +kernel
theorem dX8_meet_62 : decode cX8_meet 62 = .ok (.if_icmp .gt 7, 3) := by decide +kernel
theorem dX8_meet_65 : decode cX8_meet 65 = .ok (.iconst 0, 1) := by decide +kernel
theorem dX8_meet_66 : decode cX8_meet 66 = .ok (.goto 4, 3) := by decide +kernel
theorem dX8_meet_69 : decode cX8_meet 69 = .ok (.iconst 1, 1) := by decide +kernel
theorem dX8_meet_70 : decode cX8_meet 70 = .ok (.invokevirtual 145, 3) := by decide +kernel
theorem dX8_meet_73 : decode cX8_meet 73 = .ok (.ifCond .ne 5, 3) := by decide +kernel
theorem dX8_meet_76 : decode cX8_meet 76 = .ok (.iconst 0, 1) := by decide +kernel
theorem dX8_meet_77 : decode cX8_meet 77 = .ok (.ireturn, 1) := by decide +kernel
theorem dX8_meet_78 : decode cX8_meet 78 = .ok (.iload_n 3, 1) := by decide +kernel
theorem dX8_meet_79 : decode cX8_meet 79 = .ok (.iload 4, 2) := by decide +kernel
theorem dX8_meet_81 : decode cX8_meet 81 = .ok (.if_icmp .le 13, 3) := by decide +kernel
theorem dX8_meet_84 : decode cX8_meet 84 = .ok (.aload_n 0, 1) := by decide +kernel
theorem dX8_meet_85 : decode cX8_meet 85 = .ok (.iload_n 1, 1) := by decide +kernel
theorem dX8_meet_86 : decode cX8_meet 86 = .ok (.putfield 13, 3) := by decide +kernel
theorem dX8_meet_89 : decode cX8_meet 89 = .ok (.aload_n 0, 1) := by decide +kernel
theorem dX8_meet_90 : decode cX8_meet 90 = .ok (.iload_n 2, 1) := by decide +kernel
theorem dX8_meet_91 : decode cX8_meet 91 = .ok (.putfield 16, 3) := by decide +kernel
theorem dX8_meet_94 : decode cX8_meet 94 = .ok (.iload_n 3, 1) := by decide +kernel
theorem dX8_meet_95 : decode cX8_meet 95 = .ok (.iload 4, 2) := by decide +kernel
theorem dX8_meet_97 : decode cX8_meet 97 = .ok (.if_icmp .le 7, 3) := by decide +kernel
theorem dX8_meet_100 : decode cX8_meet 100 = .ok (.iconst 1, 1) := by decide +kernel
theorem dX8_meet_101 : decode cX8_meet 101 = .ok (.goto 4, 3) := by decide +kernel
theorem dX8_meet_104 : decode cX8_meet 104 = .ok (.iconst 0, 1) := by decide +kernel
theorem dX8_meet_105 : decode cX8_meet 105 = .ok (.ireturn, 1) := by decide +kernel
theorem dX8_heldAt_0 : decode cX8_heldAt 0 = .ok (.iconst (-1), 1) := by decide +kernel
theorem dX8_heldAt_1 : decode cX8_heldAt 1 = .ok (.istore_n 2, 1) := by decide +kernel
theorem dX8_heldAt_2 : decode cX8_heldAt 2 = .ok (.iconst 0, 1) := by decide +kernel
theorem dX8_heldAt_3 : decode cX8_heldAt 3 = .ok (.istore_n 3, 1) := by decide +kernel
theorem dX8_heldAt_4 : decode cX8_heldAt 4 = .ok (.iload_n 3, 1) := by decide +kernel
theorem dX8_heldAt_5 : decode cX8_heldAt 5 = .ok (.aload_n 0, 1) := by decide +kernel
theorem dX8_heldAt_6 : decode cX8_heldAt 6 = .ok (.getfield 130, 3) := by decide +kernel
theorem dX8_heldAt_9 : decode cX8_heldAt 9 = .ok (.if_icmp .ge 52, 3) := by decide +kernel
theorem dX8_heldAt_12 : decode cX8_heldAt 12 = .ok (.aload_n 0, 1) := by decide +kernel
theorem dX8_heldAt_13 : decode cX8_heldAt 13 = .ok (.getfield 68, 3) := by decide +kernel
theorem dX8_heldAt_16 : decode cX8_heldAt 16 = .ok (.iload_n 3, 1) := by decide +kernel
theorem dX8_heldAt_17 : decode cX8_heldAt 17 = .ok (.baload, 1) := by decide +kernel
theorem dX8_heldAt_18 : decode cX8_heldAt 18 = .ok (.ifCond .eq 35, 3) := by decide +kernel
theorem dX8_heldAt_21 : decode cX8_heldAt 21 = .ok (.iload_n 1, 1) := by decide +kernel
theorem dX8_heldAt_22 : decode cX8_heldAt 22 = .ok (.aload_n 0, 1) := by decide +kernel
theorem dX8_heldAt_23 : decode cX8_heldAt 23 = .ok (.getfield 62, 3) := by decide +kernel
theorem dX8_heldAt_26 : decode cX8_heldAt 26 = .ok (.iload_n 3, 1) := by decide +kernel
theorem dX8_heldAt_27 : decode cX8_heldAt 27 = .ok (.iaload, 1) := by decide +kernel
theorem dX8_heldAt_28 : decode cX8_heldAt 28 = .ok (.aload_n 0, 1) := by decide +kernel
theorem dX8_heldAt_29 : decode cX8_heldAt 29 = .ok (.getfield 62, 3) := by decide +kernel
theorem dX8_heldAt_32 : decode cX8_heldAt 32 = .ok (.iload_n 3, 1) := by decide +kernel
theorem dX8_heldAt_33 : decode cX8_heldAt 33 = .ok (.iaload, 1) := by decide +kernel
theorem dX8_heldAt_34 : decode cX8_heldAt 34 = .ok (.aload_n 0, 1) := by decide +kernel
theorem dX8_heldAt_35 : decode cX8_heldAt 35 = .ok (.getfield 65, 3) := by decide +kernel
theorem dX8_heldAt_38 : decode cX8_heldAt 38 = .ok (.iload_n 3, 1) := by decide +kernel
theorem dX8_heldAt_39 : decode cX8_heldAt 39 = .ok (.iaload, 1) := by decide +kernel
theorem dX8_heldAt_40 : decode cX8_heldAt 40 = .ok (.iadd, 1) := by decide +kernel
theorem dX8_heldAt_41 : decode cX8_heldAt 41 = .ok (.iconst 1, 1) := by decide +kernel
theorem dX8_heldAt_42 : decode cX8_heldAt 42 = .ok (.isub, 1) := by decide +kernel
theorem dX8_heldAt_43 : decode cX8_heldAt 43 = .ok (.invokestatic 123, 3) := by decide +kernel
theorem dX8_heldAt_46 : decode cX8_heldAt 46 = .ok (.ifCond .eq 7, 3) := by decide +kernel
theorem dX8_heldAt_49 : decode cX8_heldAt 49 = .ok (.iload_n 3, 1) := by decide +kernel
theorem dX8_heldAt_50 : decode cX8_heldAt 50 = .ok (.goto 4, 3) := by decide +kernel
theorem dX8_heldAt_53 : decode cX8_heldAt 53 = .ok (.iload_n 2, 1) := by decide +kernel
theorem dX8_heldAt_54 : decode cX8_heldAt 54 = .ok (.istore_n 2, 1) := by decide +kernel
theorem dX8_heldAt_55 : decode cX8_heldAt 55 = .ok (.iinc 3 1, 3) := by decide +kernel
theorem dX8_heldAt_58 : decode cX8_heldAt 58 = .ok (.goto (-54), 3) := by decide +kernel
theorem dX8_heldAt_61 : decode cX8_heldAt 61 = .ok (.iload_n 2, 1) := by decide +kernel
theorem dX8_heldAt_62 : decode cX8_heldAt 62 = .ok (.ireturn, 1) := by decide +kernel
theorem dX8_areFree_0 : decode cX8_areFree 0 = .ok (.iconst 1, 1) := by decide +kernel
theorem dX8_areFree_1 : decode cX8_areFree 1 = .ok (.istore_n 3, 1) := by decide +kernel
theorem dX8_areFree_2 : decode cX8_areFree 2 = .ok (.iload_n 1, 1) := by decide +kernel
theorem dX8_areFree_3 : decode cX8_areFree 3 = .ok (.istore 4, 2) := by decide +kernel
theorem dX8_areFree_5 : decode cX8_areFree 5 = .ok (.iload 4, 2) := by decide +kernel
theorem dX8_areFree_7 : decode cX8_areFree 7 = .ok (.iload_n 1, 1) := by decide +kernel
theorem dX8_areFree_8 : decode cX8_areFree 8 = .ok (.iload_n 2, 1) := by decide +kernel
theorem dX8_areFree_9 : decode cX8_areFree 9 = .ok (.iadd, 1) := by decide +kernel
theorem dX8_areFree_10 : decode cX8_areFree 10 = .ok (.if_icmp .ge 29, 3) := by decide +kernel
theorem dX8_areFree_13 : decode cX8_areFree 13 = .ok (.iload_n 3, 1) := by decide +kernel
theorem dX8_areFree_14 : decode cX8_areFree 14 = .ok (.ifCond .eq 17, 3) := by decide +kernel
theorem dX8_areFree_17 : decode cX8_areFree 17 = .ok (.aload_n 0, 1) := by decide +kernel
theorem dX8_areFree_18 : decode cX8_areFree 18 = .ok (.iload 4, 2) := by decide +kernel
theorem dX8_areFree_20 : decode cX8_areFree 20 = .ok (.invokevirtual 172, 3) := by decide +kernel
theorem dX8_areFree_23 : decode cX8_areFree 23 = .ok (.iconst (-1), 1) := by decide +kernel
theorem dX8_areFree_24 : decode cX8_areFree 24 = .ok (.if_icmp .ne 7, 3) := by decide +kernel
theorem dX8_areFree_27 : decode cX8_areFree 27 = .ok (.iconst 1, 1) := by decide +kernel
theorem dX8_areFree_28 : decode cX8_areFree 28 = .ok (.goto 4, 3) := by decide +kernel
theorem dX8_areFree_31 : decode cX8_areFree 31 = .ok (.iconst 0, 1) := by decide +kernel
theorem dX8_areFree_32 : decode cX8_areFree 32 = .ok (.istore_n 3, 1) := by decide +kernel
theorem dX8_areFree_33 : decode cX8_areFree 33 = .ok (.iinc 4 1, 3) := by decide +kernel
theorem dX8_areFree_36 : decode cX8_areFree 36 = .ok (.goto (-31), 3) := by decide +kernel
theorem dX8_areFree_39 : decode cX8_areFree 39 = .ok (.iload_n 3, 1) := by decide +kernel
theorem dX8_areFree_40 : decode cX8_areFree 40 = .ok (.ireturn, 1) := by decide +kernel
theorem dX8_peg_0 : decode cX8_peg 0 = .ok (.aload_n 0, 1) := by decide +kernel
theorem dX8_peg_1 : decode cX8_peg 1 = .ok (.iload_n 1, 1) := by decide +kernel
theorem dX8_peg_2 : decode cX8_peg 2 = .ok (.invokevirtual 176, 3) := by decide +kernel
theorem dX8_peg_5 : decode cX8_peg 5 = .ok (.ifCond .eq 22, 3) := by decide +kernel
theorem dX8_peg_8 : decode cX8_peg 8 = .ok (.iload_n 2, 1) := by decide +kernel
theorem dX8_peg_9 : decode cX8_peg 9 = .ok (.invokestatic 134, 3) := by decide +kernel
theorem dX8_peg_12 : decode cX8_peg 12 = .ok (.ifCond .eq 15, 3) := by decide +kernel
theorem dX8_peg_15 : decode cX8_peg 15 = .ok (.iload_n 3, 1) := by decide +kernel
theorem dX8_peg_16 : decode cX8_peg 16 = .ok (.bipush 40, 2) := by decide +kernel
theorem dX8_peg_18 : decode cX8_peg 18 = .ok (.iload_n 2, 1) := by decide +kernel
theorem dX8_peg_19 : decode cX8_peg 19 = .ok (.isub, 1) := by decide +kernel
theorem dX8_peg_20 : decode cX8_peg 20 = .ok (.if_icmp .gt 7, 3) := by decide +kernel
theorem dX8_peg_23 : decode cX8_peg 23 = .ok (.iconst 1, 1) := by decide +kernel
theorem dX8_peg_24 : decode cX8_peg 24 = .ok (.goto 4, 3) := by decide +kernel
theorem dX8_peg_27 : decode cX8_peg 27 = .ok (.iconst 0, 1) := by decide +kernel
theorem dX8_peg_28 : decode cX8_peg 28 = .ok (.istore 4, 2) := by decide +kernel
theorem dX8_peg_30 : decode cX8_peg 30 = .ok (.iload 4, 2) := by decide +kernel
theorem dX8_peg_32 : decode cX8_peg 32 = .ok (.ifCond .eq 17, 3) := by decide +kernel
theorem dX8_peg_35 : decode cX8_peg 35 = .ok (.iload_n 3, 1) := by decide +kernel
theorem dX8_peg_36 : decode cX8_peg 36 = .ok (.iconst 1, 1) := by decide +kernel
theorem dX8_peg_37 : decode cX8_peg 37 = .ok (.bipush 10, 2) := by decide +kernel
theorem dX8_peg_39 : decode cX8_peg 39 = .ok (.invokestatic 123, 3) := by decide +kernel
theorem dX8_peg_42 : decode cX8_peg 42 = .ok (.ifCond .eq 7, 3) := by decide +kernel
theorem dX8_peg_45 : decode cX8_peg 45 = .ok (.iconst 1, 1) := by decide +kernel
theorem dX8_peg_46 : decode cX8_peg 46 = .ok (.goto 4, 3) := by decide +kernel
theorem dX8_peg_49 : decode cX8_peg 49 = .ok (.iconst 0, 1) := by decide +kernel
theorem dX8_peg_50 : decode cX8_peg 50 = .ok (.istore 5, 2) := by decide +kernel
theorem dX8_peg_52 : decode cX8_peg 52 = .ok (.aload_n 0, 1) := by decide +kernel
theorem dX8_peg_53 : decode cX8_peg 53 = .ok (.iload 4, 2) := by decide +kernel
theorem dX8_peg_55 : decode cX8_peg 55 = .ok (.ifCond .ne 7, 3) := by decide +kernel
theorem dX8_peg_58 : decode cX8_peg 58 = .ok (.iconst 1, 1) := by decide +kernel
theorem dX8_peg_59 : decode cX8_peg 59 = .ok (.goto 51, 3) := by decide +kernel
theorem dX8_peg_62 : decode cX8_peg 62 = .ok (.iload 5, 2) := by decide +kernel
theorem dX8_peg_64 : decode cX8_peg 64 = .ok (.ifCond .ne 7, 3) := by decide +kernel
theorem dX8_peg_67 : decode cX8_peg 67 = .ok (.iconst 2, 1) := by decide +kernel
theorem dX8_peg_68 : decode cX8_peg 68 = .ok (.goto 42, 3) := by decide +kernel
theorem dX8_peg_71 : decode cX8_peg 71 = .ok (.aload_n 0, 1) := by decide +kernel
theorem dX8_peg_72 : decode cX8_peg 72 = .ok (.iload_n 1, 1) := by decide +kernel
theorem dX8_peg_73 : decode cX8_peg 73 = .ok (.invokevirtual 155, 3) := by decide +kernel
theorem dX8_peg_76 : decode cX8_peg 76 = .ok (.ifCond .ne 29, 3) := by decide +kernel
theorem dX8_peg_79 : decode cX8_peg 79 = .ok (.iload_n 3, 1) := by decide +kernel
theorem dX8_peg_80 : decode cX8_peg 80 = .ok (.aload_n 0, 1) := by decide +kernel
theorem dX8_peg_81 : decode cX8_peg 81 = .ok (.getfield 13, 3) := by decide +kernel
theorem dX8_peg_84 : decode cX8_peg 84 = .ok (.if_icmp .gt 21, 3) := by decide +kernel
theorem dX8_peg_87 : decode cX8_peg 87 = .ok (.aload_n 0, 1) := by decide +kernel
theorem dX8_peg_88 : decode cX8_peg 88 = .ok (.iload_n 2, 1) := by decide +kernel
theorem dX8_peg_89 : decode cX8_peg 89 = .ok (.iload_n 3, 1) := by decide +kernel
theorem dX8_peg_90 : decode cX8_peg 90 = .ok (.invokevirtual 179, 3) := by decide +kernel
theorem dX8_peg_93 : decode cX8_peg 93 = .ok (.ifCond .eq 12, 3) := by decide +kernel
theorem dX8_peg_96 : decode cX8_peg 96 = .ok (.aload_n 0, 1) := by decide +kernel
theorem dX8_peg_97 : decode cX8_peg 97 = .ok (.getfield 130, 3) := by decide +kernel
theorem dX8_peg_100 : decode cX8_peg 100 = .ok (.bipush 30, 2) := by decide +kernel
theorem dX8_peg_102 : decode cX8_peg 102 = .ok (.if_icmp .ne 7, 3) := by decide +kernel
theorem dX8_peg_105 : decode cX8_peg 105 = .ok (.iconst 3, 1) := by decide +kernel
theorem dX8_peg_106 : decode cX8_peg 106 = .ok (.goto 4, 3) := by decide +kernel
theorem dX8_peg_109 : decode cX8_peg 109 = .ok (.iconst 0, 1) := by decide +kernel
theorem dX8_peg_110 : decode cX8_peg 110 = .ok (.invokevirtual 145, 3) := by decide +kernel
theorem dX8_peg_113 : decode cX8_peg 113 = .ok (.ifCond .ne 5, 3) := by decide +kernel
theorem dX8_peg_116 : decode cX8_peg 116 = .ok (.iconst 0, 1) := by decide +kernel
theorem dX8_peg_117 : decode cX8_peg 117 = .ok (.ireturn, 1) := by decide +kernel
theorem dX8_peg_118 : decode cX8_peg 118 = .ok (.aload_n 0, 1) := by decide +kernel
theorem dX8_peg_119 : decode cX8_peg 119 = .ok (.getfield 59, 3) := by decide +kernel
theorem dX8_peg_122 : decode cX8_peg 122 = .ok (.aload_n 0, 1) := by decide +kernel
theorem dX8_peg_123 : decode cX8_peg 123 = .ok (.getfield 130, 3) := by decide +kernel
theorem dX8_peg_126 : decode cX8_peg 126 = .ok (.iload_n 1, 1) := by decide +kernel
theorem dX8_peg_127 : decode cX8_peg 127 = .ok (.iastore, 1) := by decide +kernel
theorem dX8_peg_128 : decode cX8_peg 128 = .ok (.aload_n 0, 1) := by decide +kernel
theorem dX8_peg_129 : decode cX8_peg 129 = .ok (.getfield 62, 3) := by decide +kernel
theorem dX8_peg_132 : decode cX8_peg 132 = .ok (.aload_n 0, 1) := by decide +kernel
theorem dX8_peg_133 : decode cX8_peg 133 = .ok (.getfield 130, 3) := by decide +kernel
theorem dX8_peg_136 : decode cX8_peg 136 = .ok (.iload_n 2, 1) := by decide +kernel
theorem dX8_peg_137 : decode cX8_peg 137 = .ok (.iastore, 1) := by decide +kernel
theorem dX8_peg_138 : decode cX8_peg 138 = .ok (.aload_n 0, 1) := by decide +kernel
theorem dX8_peg_139 : decode cX8_peg 139 = .ok (.getfield 65, 3) := by decide +kernel
theorem dX8_peg_142 : decode cX8_peg 142 = .ok (.aload_n 0, 1) := by decide +kernel
theorem dX8_peg_143 : decode cX8_peg 143 = .ok (.getfield 130, 3) := by decide +kernel
theorem dX8_peg_146 : decode cX8_peg 146 = .ok (.iload_n 3, 1) := by decide +kernel
theorem dX8_peg_147 : decode cX8_peg 147 = .ok (.iastore, 1) := by decide +kernel
theorem dX8_peg_148 : decode cX8_peg 148 = .ok (.aload_n 0, 1) := by decide +kernel
theorem dX8_peg_149 : decode cX8_peg 149 = .ok (.getfield 68, 3) := by decide +kernel
theorem dX8_peg_152 : decode cX8_peg 152 = .ok (.aload_n 0, 1) := by decide +kernel
theorem dX8_peg_153 : decode cX8_peg 153 = .ok (.getfield 130, 3) := by decide +kernel
theorem dX8_peg_156 : decode cX8_peg 156 = .ok (.iconst 1, 1) := by decide +kernel
theorem dX8_peg_157 : decode cX8_peg 157 = .ok (.bastore, 1) := by decide +kernel
theorem dX8_peg_158 : decode cX8_peg 158 = .ok (.aload_n 0, 1) := by decide +kernel
theorem dX8_peg_159 : decode cX8_peg 159 = .ok (.getfield 72, 3) := by decide +kernel
theorem dX8_peg_162 : decode cX8_peg 162 = .ok (.aload_n 0, 1) := by decide +kernel
theorem dX8_peg_163 : decode cX8_peg 163 = .ok (.getfield 130, 3) := by decide +kernel
theorem dX8_peg_166 : decode cX8_peg 166 = .ok (.aload_n 0, 1) := by decide +kernel
theorem dX8_peg_167 : decode cX8_peg 167 = .ok (.getfield 138, 3) := by decide +kernel
theorem dX8_peg_170 : decode cX8_peg 170 = .ok (.iastore, 1) := by decide +kernel
theorem dX8_peg_171 : decode cX8_peg 171 = .ok (.aload_n 0, 1) := by decide +kernel
theorem dX8_peg_172 : decode cX8_peg 172 = .ok (.getfield 75, 3) := by decide +kernel
theorem dX8_peg_175 : decode cX8_peg 175 = .ok (.aload_n 0, 1) := by decide +kernel
theorem dX8_peg_176 : decode cX8_peg 176 = .ok (.getfield 130, 3) := by decide +kernel
theorem dX8_peg_179 : decode cX8_peg 179 = .ok (.aload_n 0, 1) := by decide +kernel
theorem dX8_peg_180 : decode cX8_peg 180 = .ok (.getfield 16, 3) := by decide +kernel
theorem dX8_peg_183 : decode cX8_peg 183 = .ok (.iastore, 1) := by decide +kernel
theorem dX8_peg_184 : decode cX8_peg 184 = .ok (.aload_n 0, 1) := by decide +kernel
theorem dX8_peg_185 : decode cX8_peg 185 = .ok (.getfield 90, 3) := by decide +kernel
theorem dX8_peg_188 : decode cX8_peg 188 = .ok (.aload_n 0, 1) := by decide +kernel
theorem dX8_peg_189 : decode cX8_peg 189 = .ok (.getfield 130, 3) := by decide +kernel
theorem dX8_peg_192 : decode cX8_peg 192 = .ok (.iconst (-1), 1) := by decide +kernel
theorem dX8_peg_193 : decode cX8_peg 193 = .ok (.iastore, 1) := by decide +kernel
theorem dX8_peg_194 : decode cX8_peg 194 = .ok (.aload_n 0, 1) := by decide +kernel
theorem dX8_peg_195 : decode cX8_peg 195 = .ok (.dup, 1) := by decide +kernel
theorem dX8_peg_196 : decode cX8_peg 196 = .ok (.getfield 130, 3) := by decide +kernel
theorem dX8_peg_199 : decode cX8_peg 199 = .ok (.iconst 1, 1) := by decide +kernel
theorem dX8_peg_200 : decode cX8_peg 200 = .ok (.iadd, 1) := by decide +kernel
theorem dX8_peg_201 : decode cX8_peg 201 = .ok (.putfield 130, 3) := by decide +kernel
theorem dX8_peg_204 : decode cX8_peg 204 = .ok (.aload_n 0, 1) := by decide +kernel
theorem dX8_peg_205 : decode cX8_peg 205 = .ok (.getfield 130, 3) := by decide +kernel
theorem dX8_peg_208 : decode cX8_peg 208 = .ok (.iconst 1, 1) := by decide +kernel
theorem dX8_peg_209 : decode cX8_peg 209 = .ok (.isub, 1) := by decide +kernel
theorem dX8_peg_210 : decode cX8_peg 210 = .ok (.ireturn, 1) := by decide +kernel
theorem dX8_right_0 : decode cX8_right 0 = .ok (.aload_n 0, 1) := by decide +kernel
theorem dX8_right_1 : decode cX8_right 1 = .ok (.iload_n 1, 1) := by decide +kernel
theorem dX8_right_2 : decode cX8_right 2 = .ok (.invokevirtual 176, 3) := by decide +kernel
theorem dX8_right_5 : decode cX8_right 5 = .ok (.istore_n 3, 1) := by decide +kernel
theorem dX8_right_6 : decode cX8_right 6 = .ok (.aload_n 0, 1) := by decide +kernel
theorem dX8_right_7 : decode cX8_right 7 = .ok (.iload_n 3, 1) := by decide +kernel
theorem dX8_right_8 : decode cX8_right 8 = .ok (.ifCond .ne 7, 3) := by decide +kernel
theorem dX8_right_11 : decode cX8_right 11 = .ok (.iconst 1, 1) := by decide +kernel
theorem dX8_right_12 : decode cX8_right 12 = .ok (.goto 40, 3) := by decide +kernel
theorem dX8_right_15 : decode cX8_right 15 = .ok (.iload_n 2, 1) := by decide +kernel
theorem dX8_right_16 : decode cX8_right 16 = .ok (.iconst 1, 1) := by decide +kernel
theorem dX8_right_17 : decode cX8_right 17 = .ok (.sipush 200, 3) := by decide +kernel
theorem dX8_right_20 : decode cX8_right 20 = .ok (.invokestatic 123, 3) := by decide +kernel
theorem dX8_right_23 : decode cX8_right 23 = .ok (.ifCond .ne 7, 3) := by decide +kernel
theorem dX8_right_26 : decode cX8_right 26 = .ok (.iconst 2, 1) := by decide +kernel
theorem dX8_right_27 : decode cX8_right 27 = .ok (.goto 25, 3) := by decide +kernel
theorem dX8_right_30 : decode cX8_right 30 = .ok (.aload_n 0, 1) := by decide +kernel
theorem dX8_right_31 : decode cX8_right 31 = .ok (.iload_n 1, 1) := by decide +kernel
theorem dX8_right_32 : decode cX8_right 32 = .ok (.invokevirtual 155, 3) := by decide +kernel
theorem dX8_right_35 : decode cX8_right 35 = .ok (.ifCond .ne 12, 3) := by decide +kernel
theorem dX8_right_38 : decode cX8_right 38 = .ok (.aload_n 0, 1) := by decide +kernel
theorem dX8_right_39 : decode cX8_right 39 = .ok (.getfield 183, 3) := by decide +kernel
theorem dX8_right_42 : decode cX8_right 42 = .ok (.bipush 20, 2) := by decide +kernel
theorem dX8_right_44 : decode cX8_right 44 = .ok (.if_icmp .ne 7, 3) := by decide +kernel
theorem dX8_right_47 : decode cX8_right 47 = .ok (.iconst 3, 1) := by decide +kernel
theorem dX8_right_48 : decode cX8_right 48 = .ok (.goto 4, 3) := by decide +kernel
theorem dX8_right_51 : decode cX8_right 51 = .ok (.iconst 0, 1) := by decide +kernel
theorem dX8_right_52 : decode cX8_right 52 = .ok (.invokevirtual 145, 3) := by decide +kernel
theorem dX8_right_55 : decode cX8_right 55 = .ok (.ifCond .ne 5, 3) := by decide +kernel
theorem dX8_right_58 : decode cX8_right 58 = .ok (.iconst 0, 1) := by decide +kernel
theorem dX8_right_59 : decode cX8_right 59 = .ok (.ireturn, 1) := by decide +kernel
theorem dX8_right_60 : decode cX8_right 60 = .ok (.aload_n 0, 1) := by decide +kernel
theorem dX8_right_61 : decode cX8_right 61 = .ok (.getfield 93, 3) := by decide +kernel
theorem dX8_right_64 : decode cX8_right 64 = .ok (.aload_n 0, 1) := by decide +kernel
theorem dX8_right_65 : decode cX8_right 65 = .ok (.getfield 183, 3) := by decide +kernel
theorem dX8_right_68 : decode cX8_right 68 = .ok (.iload_n 1, 1) := by decide +kernel
theorem dX8_right_69 : decode cX8_right 69 = .ok (.iastore, 1) := by decide +kernel
theorem dX8_right_70 : decode cX8_right 70 = .ok (.aload_n 0, 1) := by decide +kernel
theorem dX8_right_71 : decode cX8_right 71 = .ok (.getfield 96, 3) := by decide +kernel
theorem dX8_right_74 : decode cX8_right 74 = .ok (.aload_n 0, 1) := by decide +kernel
theorem dX8_right_75 : decode cX8_right 75 = .ok (.getfield 183, 3) := by decide +kernel
theorem dX8_right_78 : decode cX8_right 78 = .ok (.iload_n 2, 1) := by decide +kernel
theorem dX8_right_79 : decode cX8_right 79 = .ok (.iastore, 1) := by decide +kernel
theorem dX8_right_80 : decode cX8_right 80 = .ok (.aload_n 0, 1) := by decide +kernel
theorem dX8_right_81 : decode cX8_right 81 = .ok (.dup, 1) := by decide +kernel
theorem dX8_right_82 : decode cX8_right 82 = .ok (.getfield 183, 3) := by decide +kernel
theorem dX8_right_85 : decode cX8_right 85 = .ok (.iconst 1, 1) := by decide +kernel
theorem dX8_right_86 : decode cX8_right 86 = .ok (.iadd, 1) := by decide +kernel
theorem dX8_right_87 : decode cX8_right 87 = .ok (.putfield 183, 3) := by decide +kernel
theorem dX8_right_90 : decode cX8_right 90 = .ok (.aload_n 0, 1) := by decide +kernel
theorem dX8_right_91 : decode cX8_right 91 = .ok (.getfield 183, 3) := by decide +kernel
theorem dX8_right_94 : decode cX8_right 94 = .ok (.iconst 1, 1) := by decide +kernel
theorem dX8_right_95 : decode cX8_right 95 = .ok (.isub, 1) := by decide +kernel
theorem dX8_right_96 : decode cX8_right 96 = .ok (.ireturn, 1) := by decide +kernel
theorem dX8_getsOf_0 : decode cX8_getsOf 0 = .ok (.aload_n 0, 1) := by decide +kernel
theorem dX8_getsOf_1 : decode cX8_getsOf 1 = .ok (.getfield 7, 3) := by decide +kernel
theorem dX8_getsOf_4 : decode cX8_getsOf 4 = .ok (.istore_n 2, 1) := by decide +kernel
theorem dX8_getsOf_5 : decode cX8_getsOf 5 = .ok (.iconst 0, 1) := by decide +kernel
theorem dX8_getsOf_6 : decode cX8_getsOf 6 = .ok (.istore_n 3, 1) := by decide +kernel
theorem dX8_getsOf_7 : decode cX8_getsOf 7 = .ok (.iconst 0, 1) := by decide +kernel
theorem dX8_getsOf_8 : decode cX8_getsOf 8 = .ok (.istore 4, 2) := by decide +kernel
theorem dX8_getsOf_10 : decode cX8_getsOf 10 = .ok (.iload 4, 2) := by decide +kernel
theorem dX8_getsOf_12 : decode cX8_getsOf 12 = .ok (.iload_n 1, 1) := by decide +kernel
theorem dX8_getsOf_13 : decode cX8_getsOf 13 = .ok (.if_icmp .gt 43, 3) := by decide +kernel
theorem dX8_getsOf_16 : decode cX8_getsOf 16 = .ok (.aload_n 0, 1) := by decide +kernel
theorem dX8_getsOf_17 : decode cX8_getsOf 17 = .ok (.aload_n 0, 1) := by decide +kernel
theorem dX8_getsOf_18 : decode cX8_getsOf 18 = .ok (.getfield 93, 3) := by decide +kernel
theorem dX8_getsOf_21 : decode cX8_getsOf 21 = .ok (.iload 4, 2) := by decide +kernel
theorem dX8_getsOf_23 : decode cX8_getsOf 23 = .ok (.iaload, 1) := by decide +kernel
theorem dX8_getsOf_24 : decode cX8_getsOf 24 = .ok (.invokevirtual 155, 3) := by decide +kernel
theorem dX8_getsOf_27 : decode cX8_getsOf 27 = .ok (.ifCond .eq 7, 3) := by decide +kernel
theorem dX8_getsOf_30 : decode cX8_getsOf 30 = .ok (.iconst 0, 1) := by decide +kernel
theorem dX8_getsOf_31 : decode cX8_getsOf 31 = .ok (.goto 14, 3) := by decide +kernel
theorem dX8_getsOf_34 : decode cX8_getsOf 34 = .ok (.aload_n 0, 1) := by decide +kernel
theorem dX8_getsOf_35 : decode cX8_getsOf 35 = .ok (.getfield 96, 3) := by decide +kernel
theorem dX8_getsOf_38 : decode cX8_getsOf 38 = .ok (.iload 4, 2) := by decide +kernel
theorem dX8_getsOf_40 : decode cX8_getsOf 40 = .ok (.iaload, 1) := by decide +kernel
theorem dX8_getsOf_41 : decode cX8_getsOf 41 = .ok (.iload_n 2, 1) := by decide +kernel
theorem dX8_getsOf_42 : decode cX8_getsOf 42 = .ok (.invokestatic 148, 3) := by decide +kernel
theorem dX8_getsOf_45 : decode cX8_getsOf 45 = .ok (.istore_n 3, 1) := by decide +kernel
theorem dX8_getsOf_46 : decode cX8_getsOf 46 = .ok (.iload_n 2, 1) := by decide +kernel
theorem dX8_getsOf_47 : decode cX8_getsOf 47 = .ok (.iload_n 3, 1) := by decide +kernel
theorem dX8_getsOf_48 : decode cX8_getsOf 48 = .ok (.isub, 1) := by decide +kernel
theorem dX8_getsOf_49 : decode cX8_getsOf 49 = .ok (.istore_n 2, 1) := by decide +kernel
theorem dX8_getsOf_50 : decode cX8_getsOf 50 = .ok (.iinc 4 1, 3) := by decide +kernel
theorem dX8_getsOf_53 : decode cX8_getsOf 53 = .ok (.goto (-43), 3) := by decide +kernel
theorem dX8_getsOf_56 : decode cX8_getsOf 56 = .ok (.iload_n 3, 1) := by decide +kernel
theorem dX8_getsOf_57 : decode cX8_getsOf 57 = .ok (.ireturn, 1) := by decide +kernel
theorem dX8_inchesOf_0 : decode cX8_inchesOf 0 = .ok (.iconst 0, 1) := by decide +kernel
theorem dX8_inchesOf_1 : decode cX8_inchesOf 1 = .ok (.istore_n 2, 1) := by decide +kernel
theorem dX8_inchesOf_2 : decode cX8_inchesOf 2 = .ok (.iconst 0, 1) := by decide +kernel
theorem dX8_inchesOf_3 : decode cX8_inchesOf 3 = .ok (.istore_n 3, 1) := by decide +kernel
theorem dX8_inchesOf_4 : decode cX8_inchesOf 4 = .ok (.iload_n 3, 1) := by decide +kernel
theorem dX8_inchesOf_5 : decode cX8_inchesOf 5 = .ok (.aload_n 0, 1) := by decide +kernel
theorem dX8_inchesOf_6 : decode cX8_inchesOf 6 = .ok (.getfield 183, 3) := by decide +kernel
theorem dX8_inchesOf_9 : decode cX8_inchesOf 9 = .ok (.if_icmp .ge 31, 3) := by decide +kernel
theorem dX8_inchesOf_12 : decode cX8_inchesOf 12 = .ok (.iload_n 2, 1) := by decide +kernel
theorem dX8_inchesOf_13 : decode cX8_inchesOf 13 = .ok (.aload_n 0, 1) := by decide +kernel
theorem dX8_inchesOf_14 : decode cX8_inchesOf 14 = .ok (.getfield 93, 3) := by decide +kernel
theorem dX8_inchesOf_17 : decode cX8_inchesOf 17 = .ok (.iload_n 3, 1) := by decide +kernel
theorem dX8_inchesOf_18 : decode cX8_inchesOf 18 = .ok (.iaload, 1) := by decide +kernel
theorem dX8_inchesOf_19 : decode cX8_inchesOf 19 = .ok (.iload_n 1, 1) := by decide +kernel
theorem dX8_inchesOf_20 : decode cX8_inchesOf 20 = .ok (.if_icmp .ne 11, 3) := by decide +kernel
theorem dX8_inchesOf_23 : decode cX8_inchesOf 23 = .ok (.aload_n 0, 1) := by decide +kernel
theorem dX8_inchesOf_24 : decode cX8_inchesOf 24 = .ok (.iload_n 3, 1) := by decide +kernel
theorem dX8_inchesOf_25 : decode cX8_inchesOf 25 = .ok (.invokevirtual 186, 3) := by decide +kernel
theorem dX8_inchesOf_28 : decode cX8_inchesOf 28 = .ok (.goto 4, 3) := by decide +kernel
theorem dX8_inchesOf_31 : decode cX8_inchesOf 31 = .ok (.iconst 0, 1) := by decide +kernel
theorem dX8_inchesOf_32 : decode cX8_inchesOf 32 = .ok (.iadd, 1) := by decide +kernel
theorem dX8_inchesOf_33 : decode cX8_inchesOf 33 = .ok (.istore_n 2, 1) := by decide +kernel
theorem dX8_inchesOf_34 : decode cX8_inchesOf 34 = .ok (.iinc 3 1, 3) := by decide +kernel
theorem dX8_inchesOf_37 : decode cX8_inchesOf 37 = .ok (.goto (-33), 3) := by decide +kernel
theorem dX8_inchesOf_40 : decode cX8_inchesOf 40 = .ok (.iload_n 2, 1) := by decide +kernel
theorem dX8_inchesOf_41 : decode cX8_inchesOf 41 = .ok (.ireturn, 1) := by decide +kernel
theorem dX8_needed_0 : decode cX8_needed 0 = .ok (.iload_n 0, 1) := by decide +kernel
theorem dX8_needed_1 : decode cX8_needed 1 = .ok (.ifCond .ne 7, 3) := by decide +kernel
theorem dX8_needed_4 : decode cX8_needed 4 = .ok (.iconst 0, 1) := by decide +kernel
theorem dX8_needed_5 : decode cX8_needed 5 = .ok (.goto 24, 3) := by decide +kernel
theorem dX8_needed_8 : decode cX8_needed 8 = .ok (.iload_n 0, 1) := by decide +kernel
theorem dX8_needed_9 : decode cX8_needed 9 = .ok (.iconst 1, 1) := by decide +kernel
theorem dX8_needed_10 : decode cX8_needed 10 = .ok (.if_icmp .ne 7, 3) := by decide +kernel
theorem dX8_needed_13 : decode cX8_needed 13 = .ok (.iconst 2, 1) := by decide +kernel
theorem dX8_needed_14 : decode cX8_needed 14 = .ok (.goto 15, 3) := by decide +kernel
theorem dX8_needed_17 : decode cX8_needed 17 = .ok (.iload_n 0, 1) := by decide +kernel
theorem dX8_needed_18 : decode cX8_needed 18 = .ok (.iconst 2, 1) := by decide +kernel
theorem dX8_needed_19 : decode cX8_needed 19 = .ok (.if_icmp .ne 8, 3) := by decide +kernel
theorem dX8_needed_22 : decode cX8_needed 22 = .ok (.bipush 10, 2) := by decide +kernel
theorem dX8_needed_24 : decode cX8_needed 24 = .ok (.goto 5, 3) := by decide +kernel
theorem dX8_needed_27 : decode cX8_needed 27 = .ok (.bipush 40, 2) := by decide +kernel
theorem dX8_needed_29 : decode cX8_needed 29 = .ok (.ireturn, 1) := by decide +kernel
theorem dX8_recovers_0 : decode cX8_recovers 0 = .ok (.iload_n 0, 1) := by decide +kernel
theorem dX8_recovers_1 : decode cX8_recovers 1 = .ok (.ifCond .ne 8, 3) := by decide +kernel
theorem dX8_recovers_4 : decode cX8_recovers 4 = .ok (.bipush 20, 2) := by decide +kernel
theorem dX8_recovers_6 : decode cX8_recovers 6 = .ok (.goto 27, 3) := by decide +kernel
theorem dX8_recovers_9 : decode cX8_recovers 9 = .ok (.iload_n 0, 1) := by decide +kernel
theorem dX8_recovers_10 : decode cX8_recovers 10 = .ok (.iconst 1, 1) := by decide +kernel
theorem dX8_recovers_11 : decode cX8_recovers 11 = .ok (.if_icmp .ne 8, 3) := by decide +kernel
theorem dX8_recovers_14 : decode cX8_recovers 14 = .ok (.bipush 100, 2) := by decide +kernel
theorem dX8_recovers_16 : decode cX8_recovers 16 = .ok (.goto 17, 3) := by decide +kernel
theorem dX8_recovers_19 : decode cX8_recovers 19 = .ok (.iload_n 0, 1) := by decide +kernel
theorem dX8_recovers_20 : decode cX8_recovers 20 = .ok (.iconst 2, 1) := by decide +kernel
theorem dX8_recovers_21 : decode cX8_recovers 21 = .ok (.if_icmp .ne 9, 3) := by decide +kernel
theorem dX8_recovers_24 : decode cX8_recovers 24 = .ok (.sipush 400, 3) := by decide +kernel
theorem dX8_recovers_27 : decode cX8_recovers 27 = .ok (.goto 6, 3) := by decide +kernel
theorem dX8_recovers_30 : decode cX8_recovers 30 = .ok (.sipush 2000, 3) := by decide +kernel
theorem dX8_recovers_33 : decode cX8_recovers 33 = .ok (.istore_n 3, 1) := by decide +kernel
theorem dX8_recovers_34 : decode cX8_recovers 34 = .ok (.iload_n 0, 1) := by decide +kernel
theorem dX8_recovers_35 : decode cX8_recovers 35 = .ok (.ifCond .ne 8, 3) := by decide +kernel
theorem dX8_recovers_38 : decode cX8_recovers 38 = .ok (.bipush 90, 2) := by decide +kernel
theorem dX8_recovers_40 : decode cX8_recovers 40 = .ok (.goto 25, 3) := by decide +kernel
theorem dX8_recovers_43 : decode cX8_recovers 43 = .ok (.iload_n 0, 1) := by decide +kernel
theorem dX8_recovers_44 : decode cX8_recovers 44 = .ok (.iconst 1, 1) := by decide +kernel
theorem dX8_recovers_45 : decode cX8_recovers 45 = .ok (.if_icmp .ne 8, 3) := by decide +kernel
theorem dX8_recovers_48 : decode cX8_recovers 48 = .ok (.bipush 70, 2) := by decide +kernel
theorem dX8_recovers_50 : decode cX8_recovers 50 = .ok (.goto 15, 3) := by decide +kernel
theorem dX8_recovers_53 : decode cX8_recovers 53 = .ok (.iload_n 0, 1) := by decide +kernel
theorem dX8_recovers_54 : decode cX8_recovers 54 = .ok (.iconst 2, 1) := by decide +kernel
theorem dX8_recovers_55 : decode cX8_recovers 55 = .ok (.if_icmp .ne 8, 3) := by decide +kernel
theorem dX8_recovers_58 : decode cX8_recovers 58 = .ok (.bipush 80, 2) := by decide +kernel
theorem dX8_recovers_60 : decode cX8_recovers 60 = .ok (.goto 5, 3) := by decide +kernel
theorem dX8_recovers_63 : decode cX8_recovers 63 = .ok (.bipush 50, 2) := by decide +kernel
theorem dX8_recovers_65 : decode cX8_recovers 65 = .ok (.istore 4, 2) := by decide +kernel
theorem dX8_recovers_67 : decode cX8_recovers 67 = .ok (.iload_n 1, 1) := by decide +kernel
theorem dX8_recovers_68 : decode cX8_recovers 68 = .ok (.iload_n 3, 1) := by decide +kernel
theorem dX8_recovers_69 : decode cX8_recovers 69 = .ok (.invokestatic 148, 3) := by decide +kernel
theorem dX8_recovers_72 : decode cX8_recovers 72 = .ok (.iload 4, 2) := by decide +kernel
theorem dX8_recovers_74 : decode cX8_recovers 74 = .ok (.iconst 3, 1) := by decide +kernel
theorem dX8_recovers_75 : decode cX8_recovers 75 = .ok (.iload_n 2, 1) := by decide +kernel
theorem dX8_recovers_76 : decode cX8_recovers 76 = .ok (.imul, 1) := by decide +kernel
theorem dX8_recovers_77 : decode cX8_recovers 77 = .ok (.isub, 1) := by decide +kernel
theorem dX8_recovers_78 : decode cX8_recovers 78 = .ok (.imul, 1) := by decide +kernel
theorem dX8_recovers_79 : decode cX8_recovers 79 = .ok (.bipush 100, 2) := by decide +kernel
theorem dX8_recovers_81 : decode cX8_recovers 81 = .ok (.idiv, 1) := by decide +kernel
theorem dX8_recovers_82 : decode cX8_recovers 82 = .ok (.ireturn, 1) := by decide +kernel
theorem dX8_takes_0 : decode cX8_takes 0 = .ok (.iload_n 1, 1) := by decide +kernel
theorem dX8_takes_1 : decode cX8_takes 1 = .ok (.iload_n 0, 1) := by decide +kernel
theorem dX8_takes_2 : decode cX8_takes 2 = .ok (.ifCond .ne 8, 3) := by decide +kernel
theorem dX8_takes_5 : decode cX8_takes 5 = .ok (.bipush 20, 2) := by decide +kernel
theorem dX8_takes_7 : decode cX8_takes 7 = .ok (.goto 27, 3) := by decide +kernel
theorem dX8_takes_10 : decode cX8_takes 10 = .ok (.iload_n 0, 1) := by decide +kernel
theorem dX8_takes_11 : decode cX8_takes 11 = .ok (.iconst 1, 1) := by decide +kernel
theorem dX8_takes_12 : decode cX8_takes 12 = .ok (.if_icmp .ne 8, 3) := by decide +kernel
theorem dX8_takes_15 : decode cX8_takes 15 = .ok (.bipush 100, 2) := by decide +kernel
theorem dX8_takes_17 : decode cX8_takes 17 = .ok (.goto 17, 3) := by decide +kernel
theorem dX8_takes_20 : decode cX8_takes 20 = .ok (.iload_n 0, 1) := by decide +kernel
theorem dX8_takes_21 : decode cX8_takes 21 = .ok (.iconst 2, 1) := by decide +kernel
theorem dX8_takes_22 : decode cX8_takes 22 = .ok (.if_icmp .ne 9, 3) := by decide +kernel
theorem dX8_takes_25 : decode cX8_takes 25 = .ok (.sipush 400, 3) := by decide +kernel
theorem dX8_takes_28 : decode cX8_takes 28 = .ok (.goto 6, 3) := by decide +kernel
theorem dX8_takes_31 : decode cX8_takes 31 = .ok (.sipush 2000, 3) := by decide +kernel
theorem dX8_takes_34 : decode cX8_takes 34 = .ok (.invokestatic 148, 3) := by decide +kernel
theorem dX8_takes_37 : decode cX8_takes 37 = .ok (.ireturn, 1) := by decide +kernel
theorem dX8_shares_0 : decode cX8_shares 0 = .ok (.iload_n 2, 1) := by decide +kernel
theorem dX8_shares_1 : decode cX8_shares 1 = .ok (.istore_n 3, 1) := by decide +kernel
theorem dX8_shares_2 : decode cX8_shares 2 = .ok (.iconst 0, 1) := by decide +kernel
theorem dX8_shares_3 : decode cX8_shares 3 = .ok (.istore 4, 2) := by decide +kernel
theorem dX8_shares_5 : decode cX8_shares 5 = .ok (.iload 4, 2) := by decide +kernel
theorem dX8_shares_7 : decode cX8_shares 7 = .ok (.aload_n 0, 1) := by decide +kernel
theorem dX8_shares_8 : decode cX8_shares 8 = .ok (.getfield 127, 3) := by decide +kernel
theorem dX8_shares_11 : decode cX8_shares 11 = .ok (.if_icmp .ge 45, 3) := by decide +kernel
theorem dX8_shares_14 : decode cX8_shares 14 = .ok (.iload_n 2, 1) := by decide +kernel
theorem dX8_shares_15 : decode cX8_shares 15 = .ok (.aload_n 0, 1) := by decide +kernel
theorem dX8_shares_16 : decode cX8_shares 16 = .ok (.getfield 56, 3) := by decide +kernel
theorem dX8_shares_19 : decode cX8_shares 19 = .ok (.bipush 12, 2) := by decide +kernel
theorem dX8_shares_21 : decode cX8_shares 21 = .ok (.iload_n 1, 1) := by decide +kernel
theorem dX8_shares_22 : decode cX8_shares 22 = .ok (.imul, 1) := by decide +kernel
theorem dX8_shares_23 : decode cX8_shares 23 = .ok (.iload 4, 2) := by decide +kernel
theorem dX8_shares_25 : decode cX8_shares 25 = .ok (.iadd, 1) := by decide +kernel
theorem dX8_shares_26 : decode cX8_shares 26 = .ok (.iaload, 1) := by decide +kernel
theorem dX8_shares_27 : decode cX8_shares 27 = .ok (.imul, 1) := by decide +kernel
theorem dX8_shares_28 : decode cX8_shares 28 = .ok (.bipush 100, 2) := by decide +kernel
theorem dX8_shares_30 : decode cX8_shares 30 = .ok (.idiv, 1) := by decide +kernel
theorem dX8_shares_31 : decode cX8_shares 31 = .ok (.istore 5, 2) := by decide +kernel
theorem dX8_shares_33 : decode cX8_shares 33 = .ok (.aload_n 0, 1) := by decide +kernel
theorem dX8_shares_34 : decode cX8_shares 34 = .ok (.getfield 35, 3) := by decide +kernel
theorem dX8_shares_37 : decode cX8_shares 37 = .ok (.iload 4, 2) := by decide +kernel
theorem dX8_shares_39 : decode cX8_shares 39 = .ok (.dup2, 1) := by decide +kernel
theorem dX8_shares_40 : decode cX8_shares 40 = .ok (.iaload, 1) := by decide +kernel
theorem dX8_shares_41 : decode cX8_shares 41 = .ok (.iload 5, 2) := by decide +kernel
theorem dX8_shares_43 : decode cX8_shares 43 = .ok (.iadd, 1) := by decide +kernel
theorem dX8_shares_44 : decode cX8_shares 44 = .ok (.iastore, 1) := by decide +kernel
theorem dX8_shares_45 : decode cX8_shares 45 = .ok (.iload_n 3, 1) := by decide +kernel
theorem dX8_shares_46 : decode cX8_shares 46 = .ok (.iload 5, 2) := by decide +kernel
theorem dX8_shares_48 : decode cX8_shares 48 = .ok (.isub, 1) := by decide +kernel
theorem dX8_shares_49 : decode cX8_shares 49 = .ok (.istore_n 3, 1) := by decide +kernel
theorem dX8_shares_50 : decode cX8_shares 50 = .ok (.iinc 4 1, 3) := by decide +kernel
theorem dX8_shares_53 : decode cX8_shares 53 = .ok (.goto (-48), 3) := by decide +kernel
theorem dX8_shares_56 : decode cX8_shares 56 = .ok (.aload_n 0, 1) := by decide +kernel
theorem dX8_shares_57 : decode cX8_shares 57 = .ok (.getfield 35, 3) := by decide +kernel
theorem dX8_shares_60 : decode cX8_shares 60 = .ok (.iload_n 1, 1) := by decide +kernel
theorem dX8_shares_61 : decode cX8_shares 61 = .ok (.dup2, 1) := by decide +kernel
theorem dX8_shares_62 : decode cX8_shares 62 = .ok (.iaload, 1) := by decide +kernel
theorem dX8_shares_63 : decode cX8_shares 63 = .ok (.iload_n 3, 1) := by decide +kernel
theorem dX8_shares_64 : decode cX8_shares 64 = .ok (.iadd, 1) := by decide +kernel
theorem dX8_shares_65 : decode cX8_shares 65 = .ok (.iastore, 1) := by decide +kernel
theorem dX8_shares_66 : decode cX8_shares 66 = .ok (.return_, 1) := by decide +kernel
theorem dX8_mayWork_0 : decode cX8_mayWork 0 = .ok (.aload_n 0, 1) := by decide +kernel
theorem dX8_mayWork_1 : decode cX8_mayWork 1 = .ok (.iload_n 2, 1) := by decide +kernel
theorem dX8_mayWork_2 : decode cX8_mayWork 2 = .ok (.invokevirtual 172, 3) := by decide +kernel
theorem dX8_mayWork_5 : decode cX8_mayWork 5 = .ok (.istore 4, 2) := by decide +kernel
theorem dX8_mayWork_7 : decode cX8_mayWork 7 = .ok (.iload 4, 2) := by decide +kernel
theorem dX8_mayWork_9 : decode cX8_mayWork 9 = .ok (.iconst (-1), 1) := by decide +kernel
theorem dX8_mayWork_10 : decode cX8_mayWork 10 = .ok (.if_icmp .ne 15, 3) := by decide +kernel
theorem dX8_mayWork_13 : decode cX8_mayWork 13 = .ok (.iload_n 3, 1) := by decide +kernel
theorem dX8_mayWork_14 : decode cX8_mayWork 14 = .ok (.ifCond .ne 7, 3) := by decide +kernel
theorem dX8_mayWork_17 : decode cX8_mayWork 17 = .ok (.iconst 1, 1) := by decide +kernel
theorem dX8_mayWork_18 : decode cX8_mayWork 18 = .ok (.goto 23, 3) := by decide +kernel
theorem dX8_mayWork_21 : decode cX8_mayWork 21 = .ok (.iconst 0, 1) := by decide +kernel
theorem dX8_mayWork_22 : decode cX8_mayWork 22 = .ok (.goto 19, 3) := by decide +kernel
theorem dX8_mayWork_25 : decode cX8_mayWork 25 = .ok (.aload_n 0, 1) := by decide +kernel
theorem dX8_mayWork_26 : decode cX8_mayWork 26 = .ok (.getfield 59, 3) := by decide +kernel
theorem dX8_mayWork_29 : decode cX8_mayWork 29 = .ok (.iload 4, 2) := by decide +kernel
theorem dX8_mayWork_31 : decode cX8_mayWork 31 = .ok (.iaload, 1) := by decide +kernel
theorem dX8_mayWork_32 : decode cX8_mayWork 32 = .ok (.iload_n 1, 1) := by decide +kernel
theorem dX8_mayWork_33 : decode cX8_mayWork 33 = .ok (.if_icmp .ne 7, 3) := by decide +kernel
theorem dX8_mayWork_36 : decode cX8_mayWork 36 = .ok (.iconst 1, 1) := by decide +kernel
theorem dX8_mayWork_37 : decode cX8_mayWork 37 = .ok (.goto 4, 3) := by decide +kernel
theorem dX8_mayWork_40 : decode cX8_mayWork 40 = .ok (.iconst 0, 1) := by decide +kernel
theorem dX8_mayWork_41 : decode cX8_mayWork 41 = .ok (.ireturn, 1) := by decide +kernel
theorem dX8_work_0 : decode cX8_work 0 = .ok (.aload_n 0, 1) := by decide +kernel
theorem dX8_work_1 : decode cX8_work 1 = .ok (.iload_n 1, 1) := by decide +kernel
theorem dX8_work_2 : decode cX8_work 2 = .ok (.invokevirtual 176, 3) := by decide +kernel
theorem dX8_work_5 : decode cX8_work 5 = .ok (.ifCond .eq 14, 3) := by decide +kernel
theorem dX8_work_8 : decode cX8_work 8 = .ok (.iload_n 2, 1) := by decide +kernel
theorem dX8_work_9 : decode cX8_work 9 = .ok (.invokestatic 134, 3) := by decide +kernel
theorem dX8_work_12 : decode cX8_work 12 = .ok (.ifCond .eq 7, 3) := by decide +kernel
theorem dX8_work_15 : decode cX8_work 15 = .ok (.iconst 1, 1) := by decide +kernel
theorem dX8_work_16 : decode cX8_work 16 = .ok (.goto 4, 3) := by decide +kernel
theorem dX8_work_19 : decode cX8_work 19 = .ok (.iconst 0, 1) := by decide +kernel
theorem dX8_work_20 : decode cX8_work 20 = .ok (.istore 4, 2) := by decide +kernel
theorem dX8_work_22 : decode cX8_work 22 = .ok (.iload 4, 2) := by decide +kernel
theorem dX8_work_24 : decode cX8_work 24 = .ok (.ifCond .eq 14, 3) := by decide +kernel
theorem dX8_work_27 : decode cX8_work 27 = .ok (.iload_n 3, 1) := by decide +kernel
theorem dX8_work_28 : decode cX8_work 28 = .ok (.invokestatic 189, 3) := by decide +kernel
theorem dX8_work_31 : decode cX8_work 31 = .ok (.ifCond .eq 7, 3) := by decide +kernel
theorem dX8_work_34 : decode cX8_work 34 = .ok (.iconst 1, 1) := by decide +kernel
theorem dX8_work_35 : decode cX8_work 35 = .ok (.goto 4, 3) := by decide +kernel
theorem dX8_work_38 : decode cX8_work 38 = .ok (.iconst 0, 1) := by decide +kernel
theorem dX8_work_39 : decode cX8_work 39 = .ok (.istore 5, 2) := by decide +kernel
theorem dX8_work_41 : decode cX8_work 41 = .ok (.iload 5, 2) := by decide +kernel
theorem dX8_work_43 : decode cX8_work 43 = .ok (.ifCond .eq 50, 3) := by decide +kernel
theorem dX8_work_46 : decode cX8_work 46 = .ok (.aload_n 0, 1) := by decide +kernel
theorem dX8_work_47 : decode cX8_work 47 = .ok (.iload_n 1, 1) := by decide +kernel
theorem dX8_work_48 : decode cX8_work 48 = .ok (.invokevirtual 155, 3) := by decide +kernel
theorem dX8_work_51 : decode cX8_work 51 = .ok (.ifCond .ne 42, 3) := by decide +kernel
theorem dX8_work_54 : decode cX8_work 54 = .ok (.aload_n 0, 1) := by decide +kernel
theorem dX8_work_55 : decode cX8_work 55 = .ok (.getfield 53, 3) := by decide +kernel
theorem dX8_work_58 : decode cX8_work 58 = .ok (.iload_n 1, 1) := by decide +kernel
theorem dX8_work_59 : decode cX8_work 59 = .ok (.iaload, 1) := by decide +kernel
theorem dX8_work_60 : decode cX8_work 60 = .ok (.aload_n 0, 1) := by decide +kernel
theorem dX8_work_61 : decode cX8_work 61 = .ok (.getfield 138, 3) := by decide +kernel
theorem dX8_work_64 : decode cX8_work 64 = .ok (.if_icmp .eq 29, 3) := by decide +kernel
theorem dX8_work_67 : decode cX8_work 67 = .ok (.aload_n 0, 1) := by decide +kernel
theorem dX8_work_68 : decode cX8_work 68 = .ok (.iload_n 1, 1) := by decide +kernel
theorem dX8_work_69 : decode cX8_work 69 = .ok (.iload_n 2, 1) := by decide +kernel
theorem dX8_work_70 : decode cX8_work 70 = .ok (.iload_n 3, 1) := by decide +kernel
theorem dX8_work_71 : decode cX8_work 71 = .ok (.invokevirtual 192, 3) := by decide +kernel
theorem dX8_work_74 : decode cX8_work 74 = .ok (.ifCond .eq 19, 3) := by decide +kernel
theorem dX8_work_77 : decode cX8_work 77 = .ok (.aload_n 0, 1) := by decide +kernel
theorem dX8_work_78 : decode cX8_work 78 = .ok (.iload_n 1, 1) := by decide +kernel
theorem dX8_work_79 : decode cX8_work 79 = .ok (.invokevirtual 195, 3) := by decide +kernel
theorem dX8_work_82 : decode cX8_work 82 = .ok (.iload_n 3, 1) := by decide +kernel
theorem dX8_work_83 : decode cX8_work 83 = .ok (.invokestatic 198, 3) := by decide +kernel
theorem dX8_work_86 : decode cX8_work 86 = .ok (.if_icmp .lt 7, 3) := by decide +kernel
theorem dX8_work_89 : decode cX8_work 89 = .ok (.iconst 1, 1) := by decide +kernel
theorem dX8_work_90 : decode cX8_work 90 = .ok (.goto 4, 3) := by decide +kernel
theorem dX8_work_93 : decode cX8_work 93 = .ok (.iconst 0, 1) := by decide +kernel
theorem dX8_work_94 : decode cX8_work 94 = .ok (.istore 6, 2) := by decide +kernel
theorem dX8_work_96 : decode cX8_work 96 = .ok (.aload_n 0, 1) := by decide +kernel
theorem dX8_work_97 : decode cX8_work 97 = .ok (.iload 4, 2) := by decide +kernel
theorem dX8_work_99 : decode cX8_work 99 = .ok (.ifCond .ne 7, 3) := by decide +kernel
theorem dX8_work_102 : decode cX8_work 102 = .ok (.iconst 1, 1) := by decide +kernel
theorem dX8_work_103 : decode cX8_work 103 = .ok (.goto 22, 3) := by decide +kernel
theorem dX8_work_106 : decode cX8_work 106 = .ok (.iload 5, 2) := by decide +kernel
theorem dX8_work_108 : decode cX8_work 108 = .ok (.ifCond .ne 7, 3) := by decide +kernel
theorem dX8_work_111 : decode cX8_work 111 = .ok (.iconst 2, 1) := by decide +kernel
theorem dX8_work_112 : decode cX8_work 112 = .ok (.goto 13, 3) := by decide +kernel
theorem dX8_work_115 : decode cX8_work 115 = .ok (.iload 6, 2) := by decide +kernel
theorem dX8_work_117 : decode cX8_work 117 = .ok (.ifCond .eq 7, 3) := by decide +kernel
theorem dX8_work_120 : decode cX8_work 120 = .ok (.iconst 0, 1) := by decide +kernel
theorem dX8_work_121 : decode cX8_work 121 = .ok (.goto 4, 3) := by decide +kernel
theorem dX8_work_124 : decode cX8_work 124 = .ok (.iconst 3, 1) := by decide +kernel
theorem dX8_work_125 : decode cX8_work 125 = .ok (.invokevirtual 145, 3) := by decide +kernel
theorem dX8_work_128 : decode cX8_work 128 = .ok (.ifCond .ne 5, 3) := by decide +kernel
theorem dX8_work_131 : decode cX8_work 131 = .ok (.iconst 0, 1) := by decide +kernel
theorem dX8_work_132 : decode cX8_work 132 = .ok (.ireturn, 1) := by decide +kernel
theorem dX8_work_133 : decode cX8_work 133 = .ok (.iload_n 3, 1) := by decide +kernel
theorem dX8_work_134 : decode cX8_work 134 = .ok (.aload_n 0, 1) := by decide +kernel
theorem dX8_work_135 : decode cX8_work 135 = .ok (.getfield 25, 3) := by decide +kernel
theorem dX8_work_138 : decode cX8_work 138 = .ok (.iload_n 2, 1) := by decide +kernel
theorem dX8_work_139 : decode cX8_work 139 = .ok (.iaload, 1) := by decide +kernel
theorem dX8_work_140 : decode cX8_work 140 = .ok (.invokestatic 201, 3) := by decide +kernel
theorem dX8_work_143 : decode cX8_work 143 = .ok (.istore 7, 2) := by decide +kernel
theorem dX8_work_145 : decode cX8_work 145 = .ok (.iload_n 3, 1) := by decide +kernel
theorem dX8_work_146 : decode cX8_work 146 = .ok (.aload_n 0, 1) := by decide +kernel
theorem dX8_work_147 : decode cX8_work 147 = .ok (.getfield 25, 3) := by decide +kernel
theorem dX8_work_150 : decode cX8_work 150 = .ok (.iload_n 2, 1) := by decide +kernel
theorem dX8_work_151 : decode cX8_work 151 = .ok (.iaload, 1) := by decide +kernel
theorem dX8_work_152 : decode cX8_work 152 = .ok (.aload_n 0, 1) := by decide +kernel
theorem dX8_work_153 : decode cX8_work 153 = .ok (.getfield 29, 3) := by decide +kernel
theorem dX8_work_156 : decode cX8_work 156 = .ok (.iload_n 2, 1) := by decide +kernel
theorem dX8_work_157 : decode cX8_work 157 = .ok (.iaload, 1) := by decide +kernel
theorem dX8_work_158 : decode cX8_work 158 = .ok (.invokestatic 204, 3) := by decide +kernel
theorem dX8_work_161 : decode cX8_work 161 = .ok (.istore 8, 2) := by decide +kernel
theorem dX8_work_163 : decode cX8_work 163 = .ok (.aload_n 0, 1) := by decide +kernel
theorem dX8_work_164 : decode cX8_work 164 = .ok (.getfield 25, 3) := by decide +kernel
theorem dX8_work_167 : decode cX8_work 167 = .ok (.iload_n 2, 1) := by decide +kernel
theorem dX8_work_168 : decode cX8_work 168 = .ok (.dup2, 1) := by decide +kernel
theorem dX8_work_169 : decode cX8_work 169 = .ok (.iaload, 1) := by decide +kernel
theorem dX8_work_170 : decode cX8_work 170 = .ok (.iload 7, 2) := by decide +kernel
theorem dX8_work_172 : decode cX8_work 172 = .ok (.isub, 1) := by decide +kernel
theorem dX8_work_173 : decode cX8_work 173 = .ok (.iastore, 1) := by decide +kernel
theorem dX8_work_174 : decode cX8_work 174 = .ok (.iload_n 2, 1) := by decide +kernel
theorem dX8_work_175 : decode cX8_work 175 = .ok (.bipush 39, 2) := by decide +kernel
theorem dX8_work_177 : decode cX8_work 177 = .ok (.if_icmp .ne 20, 3) := by decide +kernel
theorem dX8_work_180 : decode cX8_work 180 = .ok (.aload_n 0, 1) := by decide +kernel
theorem dX8_work_181 : decode cX8_work 181 = .ok (.dup, 1) := by decide +kernel
theorem dX8_work_182 : decode cX8_work 182 = .ok (.getfield 208, 3) := by decide +kernel
theorem dX8_work_185 : decode cX8_work 185 = .ok (.iload 7, 2) := by decide +kernel
theorem dX8_work_187 : decode cX8_work 187 = .ok (.iload 8, 2) := by decide +kernel
theorem dX8_work_189 : decode cX8_work 189 = .ok (.isub, 1) := by decide +kernel
theorem dX8_work_190 : decode cX8_work 190 = .ok (.iadd, 1) := by decide +kernel
theorem dX8_work_191 : decode cX8_work 191 = .ok (.putfield 208, 3) := by decide +kernel
theorem dX8_work_194 : decode cX8_work 194 = .ok (.goto 19, 3) := by decide +kernel
theorem dX8_work_197 : decode cX8_work 197 = .ok (.aload_n 0, 1) := by decide +kernel
theorem dX8_work_198 : decode cX8_work 198 = .ok (.getfield 25, 3) := by decide +kernel
theorem dX8_work_201 : decode cX8_work 201 = .ok (.iload_n 2, 1) := by decide +kernel
theorem dX8_work_202 : decode cX8_work 202 = .ok (.iconst 1, 1) := by decide +kernel
theorem dX8_work_203 : decode cX8_work 203 = .ok (.iadd, 1) := by decide +kernel
theorem dX8_work_204 : decode cX8_work 204 = .ok (.dup2, 1) := by decide +kernel
theorem dX8_work_205 : decode cX8_work 205 = .ok (.iaload, 1) := by decide +kernel
theorem dX8_work_206 : decode cX8_work 206 = .ok (.iload 7, 2) := by decide +kernel
theorem dX8_work_208 : decode cX8_work 208 = .ok (.iload 8, 2) := by decide +kernel
theorem dX8_work_210 : decode cX8_work 210 = .ok (.isub, 1) := by decide +kernel
theorem dX8_work_211 : decode cX8_work 211 = .ok (.iadd, 1) := by decide +kernel
theorem dX8_work_212 : decode cX8_work 212 = .ok (.iastore, 1) := by decide +kernel
theorem dX8_work_213 : decode cX8_work 213 = .ok (.aload_n 0, 1) := by decide +kernel
theorem dX8_work_214 : decode cX8_work 214 = .ok (.iload_n 1, 1) := by decide +kernel
theorem dX8_work_215 : decode cX8_work 215 = .ok (.iload 8, 2) := by decide +kernel
theorem dX8_work_217 : decode cX8_work 217 = .ok (.invokevirtual 211, 3) := by decide +kernel
theorem dX8_work_220 : decode cX8_work 220 = .ok (.aload_n 0, 1) := by decide +kernel
theorem dX8_work_221 : decode cX8_work 221 = .ok (.getfield 53, 3) := by decide +kernel
theorem dX8_work_224 : decode cX8_work 224 = .ok (.iload_n 1, 1) := by decide +kernel
theorem dX8_work_225 : decode cX8_work 225 = .ok (.aload_n 0, 1) := by decide +kernel
theorem dX8_work_226 : decode cX8_work 226 = .ok (.getfield 138, 3) := by decide +kernel
theorem dX8_work_229 : decode cX8_work 229 = .ok (.iastore, 1) := by decide +kernel
theorem dX8_work_230 : decode cX8_work 230 = .ok (.aload_n 0, 1) := by decide +kernel
theorem dX8_work_231 : decode cX8_work 231 = .ok (.iconst 1, 1) := by decide +kernel
theorem dX8_work_232 : decode cX8_work 232 = .ok (.putfield 141, 3) := by decide +kernel
theorem dX8_work_235 : decode cX8_work 235 = .ok (.aload_n 0, 1) := by decide +kernel
theorem dX8_work_236 : decode cX8_work 236 = .ok (.iload_n 2, 1) := by decide +kernel
theorem dX8_work_237 : decode cX8_work 237 = .ok (.invokevirtual 172, 3) := by decide +kernel
theorem dX8_work_240 : decode cX8_work 240 = .ok (.iconst (-1), 1) := by decide +kernel
theorem dX8_work_241 : decode cX8_work 241 = .ok (.if_icmp .eq 17, 3) := by decide +kernel
theorem dX8_work_244 : decode cX8_work 244 = .ok (.aload_n 0, 1) := by decide +kernel
theorem dX8_work_245 : decode cX8_work 245 = .ok (.getfield 72, 3) := by decide +kernel
theorem dX8_work_248 : decode cX8_work 248 = .ok (.aload_n 0, 1) := by decide +kernel
theorem dX8_work_249 : decode cX8_work 249 = .ok (.iload_n 2, 1) := by decide +kernel
theorem dX8_work_250 : decode cX8_work 250 = .ok (.invokevirtual 172, 3) := by decide +kernel
theorem dX8_work_253 : decode cX8_work 253 = .ok (.aload_n 0, 1) := by decide +kernel
theorem dX8_work_254 : decode cX8_work 254 = .ok (.getfield 138, 3) := by decide +kernel
theorem dX8_work_257 : decode cX8_work 257 = .ok (.iastore, 1) := by decide +kernel
theorem dX8_work_258 : decode cX8_work 258 = .ok (.iload 8, 2) := by decide +kernel
theorem dX8_work_260 : decode cX8_work 260 = .ok (.ireturn, 1) := by decide +kernel
theorem dX8_sample_0 : decode cX8_sample 0 = .ok (.aload_n 0, 1) := by decide +kernel
theorem dX8_sample_1 : decode cX8_sample 1 = .ok (.iload_n 1, 1) := by decide +kernel
theorem dX8_sample_2 : decode cX8_sample 2 = .ok (.invokestatic 134, 3) := by decide +kernel
theorem dX8_sample_5 : decode cX8_sample 5 = .ok (.ifCond .eq 7, 3) := by decide +kernel
theorem dX8_sample_8 : decode cX8_sample 8 = .ok (.iconst 0, 1) := by decide +kernel
theorem dX8_sample_9 : decode cX8_sample 9 = .ok (.goto 4, 3) := by decide +kernel
theorem dX8_sample_12 : decode cX8_sample 12 = .ok (.iconst 1, 1) := by decide +kernel
theorem dX8_sample_13 : decode cX8_sample 13 = .ok (.invokevirtual 145, 3) := by decide +kernel
theorem dX8_sample_16 : decode cX8_sample 16 = .ok (.ifCond .eq 15, 3) := by decide +kernel
theorem dX8_sample_19 : decode cX8_sample 19 = .ok (.aload_n 0, 1) := by decide +kernel
theorem dX8_sample_20 : decode cX8_sample 20 = .ok (.getfield 25, 3) := by decide +kernel
theorem dX8_sample_23 : decode cX8_sample 23 = .ok (.iload_n 1, 1) := by decide +kernel
theorem dX8_sample_24 : decode cX8_sample 24 = .ok (.iaload, 1) := by decide +kernel
theorem dX8_sample_25 : decode cX8_sample 25 = .ok (.bipush 100, 2) := by decide +kernel
theorem dX8_sample_27 : decode cX8_sample 27 = .ok (.idiv, 1) := by decide +kernel
theorem dX8_sample_28 : decode cX8_sample 28 = .ok (.goto 4, 3) := by decide +kernel
theorem dX8_sample_31 : decode cX8_sample 31 = .ok (.iconst 0, 1) := by decide +kernel
theorem dX8_sample_32 : decode cX8_sample 32 = .ok (.ireturn, 1) := by decide +kernel
theorem dX8_salt_0 : decode cX8_salt 0 = .ok (.aload_n 0, 1) := by decide +kernel
theorem dX8_salt_1 : decode cX8_salt 1 = .ok (.iload_n 1, 1) := by decide +kernel
theorem dX8_salt_2 : decode cX8_salt 2 = .ok (.invokevirtual 176, 3) := by decide +kernel
theorem dX8_salt_5 : decode cX8_salt 5 = .ok (.ifCond .eq 14, 3) := by decide +kernel
theorem dX8_salt_8 : decode cX8_salt 8 = .ok (.iload_n 2, 1) := by decide +kernel
theorem dX8_salt_9 : decode cX8_salt 9 = .ok (.invokestatic 134, 3) := by decide +kernel
theorem dX8_salt_12 : decode cX8_salt 12 = .ok (.ifCond .eq 7, 3) := by decide +kernel
theorem dX8_salt_15 : decode cX8_salt 15 = .ok (.iconst 1, 1) := by decide +kernel
theorem dX8_salt_16 : decode cX8_salt 16 = .ok (.goto 4, 3) := by decide +kernel
theorem dX8_salt_19 : decode cX8_salt 19 = .ok (.iconst 0, 1) := by decide +kernel
theorem dX8_salt_20 : decode cX8_salt 20 = .ok (.istore 4, 2) := by decide +kernel
theorem dX8_salt_22 : decode cX8_salt 22 = .ok (.aload_n 0, 1) := by decide +kernel
theorem dX8_salt_23 : decode cX8_salt 23 = .ok (.iload 4, 2) := by decide +kernel
theorem dX8_salt_25 : decode cX8_salt 25 = .ok (.ifCond .ne 7, 3) := by decide +kernel
theorem dX8_salt_28 : decode cX8_salt 28 = .ok (.iconst 1, 1) := by decide +kernel
theorem dX8_salt_29 : decode cX8_salt 29 = .ok (.goto 41, 3) := by decide +kernel
theorem dX8_salt_32 : decode cX8_salt 32 = .ok (.iload_n 3, 1) := by decide +kernel
theorem dX8_salt_33 : decode cX8_salt 33 = .ok (.iconst 1, 1) := by decide +kernel
theorem dX8_salt_34 : decode cX8_salt 34 = .ok (.sipush 10000, 3) := by decide +kernel
theorem dX8_salt_37 : decode cX8_salt 37 = .ok (.invokestatic 123, 3) := by decide +kernel
theorem dX8_salt_40 : decode cX8_salt 40 = .ok (.ifCond .ne 7, 3) := by decide +kernel
theorem dX8_salt_43 : decode cX8_salt 43 = .ok (.iconst 2, 1) := by decide +kernel
theorem dX8_salt_44 : decode cX8_salt 44 = .ok (.goto 26, 3) := by decide +kernel
theorem dX8_salt_47 : decode cX8_salt 47 = .ok (.aload_n 0, 1) := by decide +kernel
theorem dX8_salt_48 : decode cX8_salt 48 = .ok (.iload_n 1, 1) := by decide +kernel
theorem dX8_salt_49 : decode cX8_salt 49 = .ok (.invokevirtual 155, 3) := by decide +kernel
theorem dX8_salt_52 : decode cX8_salt 52 = .ok (.ifCond .ne 13, 3) := by decide +kernel
theorem dX8_salt_55 : decode cX8_salt 55 = .ok (.aload_n 0, 1) := by decide +kernel
theorem dX8_salt_56 : decode cX8_salt 56 = .ok (.getfield 35, 3) := by decide +kernel
theorem dX8_salt_59 : decode cX8_salt 59 = .ok (.iload_n 1, 1) := by decide +kernel
theorem dX8_salt_60 : decode cX8_salt 60 = .ok (.iaload, 1) := by decide +kernel
theorem dX8_salt_61 : decode cX8_salt 61 = .ok (.iload_n 3, 1) := by decide +kernel
theorem dX8_salt_62 : decode cX8_salt 62 = .ok (.if_icmp .ge 7, 3) := by decide +kernel
theorem dX8_salt_65 : decode cX8_salt 65 = .ok (.iconst 3, 1) := by decide +kernel
theorem dX8_salt_66 : decode cX8_salt 66 = .ok (.goto 4, 3) := by decide +kernel
theorem dX8_salt_69 : decode cX8_salt 69 = .ok (.iconst 0, 1) := by decide +kernel
theorem dX8_salt_70 : decode cX8_salt 70 = .ok (.invokevirtual 145, 3) := by decide +kernel
theorem dX8_salt_73 : decode cX8_salt 73 = .ok (.ifCond .ne 5, 3) := by decide +kernel
theorem dX8_salt_76 : decode cX8_salt 76 = .ok (.iconst 0, 1) := by decide +kernel
theorem dX8_salt_77 : decode cX8_salt 77 = .ok (.ireturn, 1) := by decide +kernel
theorem dX8_salt_78 : decode cX8_salt 78 = .ok (.aload_n 0, 1) := by decide +kernel
theorem dX8_salt_79 : decode cX8_salt 79 = .ok (.getfield 35, 3) := by decide +kernel
theorem dX8_salt_82 : decode cX8_salt 82 = .ok (.iload_n 1, 1) := by decide +kernel
theorem dX8_salt_83 : decode cX8_salt 83 = .ok (.dup2, 1) := by decide +kernel
theorem dX8_salt_84 : decode cX8_salt 84 = .ok (.iaload, 1) := by decide +kernel
theorem dX8_salt_85 : decode cX8_salt 85 = .ok (.iload_n 3, 1) := by decide +kernel
theorem dX8_salt_86 : decode cX8_salt 86 = .ok (.isub, 1) := by decide +kernel
theorem dX8_salt_87 : decode cX8_salt 87 = .ok (.iastore, 1) := by decide +kernel
theorem dX8_salt_88 : decode cX8_salt 88 = .ok (.aload_n 0, 1) := by decide +kernel
theorem dX8_salt_89 : decode cX8_salt 89 = .ok (.getfield 25, 3) := by decide +kernel
theorem dX8_salt_92 : decode cX8_salt 92 = .ok (.iload_n 2, 1) := by decide +kernel
theorem dX8_salt_93 : decode cX8_salt 93 = .ok (.dup2, 1) := by decide +kernel
theorem dX8_salt_94 : decode cX8_salt 94 = .ok (.iaload, 1) := by decide +kernel
theorem dX8_salt_95 : decode cX8_salt 95 = .ok (.iload_n 3, 1) := by decide +kernel
theorem dX8_salt_96 : decode cX8_salt 96 = .ok (.iadd, 1) := by decide +kernel
theorem dX8_salt_97 : decode cX8_salt 97 = .ok (.iastore, 1) := by decide +kernel
theorem dX8_salt_98 : decode cX8_salt 98 = .ok (.aload_n 0, 1) := by decide +kernel
theorem dX8_salt_99 : decode cX8_salt 99 = .ok (.getfield 105, 3) := by decide +kernel
theorem dX8_salt_102 : decode cX8_salt 102 = .ok (.aload_n 0, 1) := by decide +kernel
theorem dX8_salt_103 : decode cX8_salt 103 = .ok (.getfield 215, 3) := by decide +kernel
theorem dX8_salt_106 : decode cX8_salt 106 = .ok (.iload_n 1, 1) := by decide +kernel
theorem dX8_salt_107 : decode cX8_salt 107 = .ok (.iastore, 1) := by decide +kernel
theorem dX8_salt_108 : decode cX8_salt 108 = .ok (.aload_n 0, 1) := by decide +kernel
theorem dX8_salt_109 : decode cX8_salt 109 = .ok (.getfield 108, 3) := by decide +kernel
theorem dX8_salt_112 : decode cX8_salt 112 = .ok (.aload_n 0, 1) := by decide +kernel
theorem dX8_salt_113 : decode cX8_salt 113 = .ok (.getfield 215, 3) := by decide +kernel
theorem dX8_salt_116 : decode cX8_salt 116 = .ok (.iload_n 2, 1) := by decide +kernel
theorem dX8_salt_117 : decode cX8_salt 117 = .ok (.iastore, 1) := by decide +kernel
theorem dX8_salt_118 : decode cX8_salt 118 = .ok (.aload_n 0, 1) := by decide +kernel
theorem dX8_salt_119 : decode cX8_salt 119 = .ok (.getfield 111, 3) := by decide +kernel
theorem dX8_salt_122 : decode cX8_salt 122 = .ok (.aload_n 0, 1) := by decide +kernel
theorem dX8_salt_123 : decode cX8_salt 123 = .ok (.getfield 215, 3) := by decide +kernel
theorem dX8_salt_126 : decode cX8_salt 126 = .ok (.aload_n 0, 1) := by decide +kernel
theorem dX8_salt_127 : decode cX8_salt 127 = .ok (.getfield 138, 3) := by decide +kernel
theorem dX8_salt_130 : decode cX8_salt 130 = .ok (.iastore, 1) := by decide +kernel
theorem dX8_salt_131 : decode cX8_salt 131 = .ok (.aload_n 0, 1) := by decide +kernel
theorem dX8_salt_132 : decode cX8_salt 132 = .ok (.dup, 1) := by decide +kernel
theorem dX8_salt_133 : decode cX8_salt 133 = .ok (.getfield 215, 3) := by decide +kernel
theorem dX8_salt_136 : decode cX8_salt 136 = .ok (.iconst 1, 1) := by decide +kernel
theorem dX8_salt_137 : decode cX8_salt 137 = .ok (.iadd, 1) := by decide +kernel
theorem dX8_salt_138 : decode cX8_salt 138 = .ok (.putfield 215, 3) := by decide +kernel
theorem dX8_salt_141 : decode cX8_salt 141 = .ok (.aload_n 0, 1) := by decide +kernel
theorem dX8_salt_142 : decode cX8_salt 142 = .ok (.iconst 1, 1) := by decide +kernel
theorem dX8_salt_143 : decode cX8_salt 143 = .ok (.putfield 141, 3) := by decide +kernel
theorem dX8_salt_146 : decode cX8_salt 146 = .ok (.aload_n 0, 1) := by decide +kernel
theorem dX8_salt_147 : decode cX8_salt 147 = .ok (.getfield 25, 3) := by decide +kernel
theorem dX8_salt_150 : decode cX8_salt 150 = .ok (.iload_n 2, 1) := by decide +kernel
theorem dX8_salt_151 : decode cX8_salt 151 = .ok (.iaload, 1) := by decide +kernel
theorem dX8_salt_152 : decode cX8_salt 152 = .ok (.ireturn, 1) := by decide +kernel
theorem dX8_brass_0 : decode cX8_brass 0 = .ok (.aload_n 0, 1) := by decide +kernel
theorem dX8_brass_1 : decode cX8_brass 1 = .ok (.iload_n 1, 1) := by decide +kernel
theorem dX8_brass_2 : decode cX8_brass 2 = .ok (.invokevirtual 176, 3) := by decide +kernel
theorem dX8_brass_5 : decode cX8_brass 5 = .ok (.istore_n 3, 1) := by decide +kernel
theorem dX8_brass_6 : decode cX8_brass 6 = .ok (.aload_n 0, 1) := by decide +kernel
theorem dX8_brass_7 : decode cX8_brass 7 = .ok (.iload_n 3, 1) := by decide +kernel
theorem dX8_brass_8 : decode cX8_brass 8 = .ok (.ifCond .ne 7, 3) := by decide +kernel
theorem dX8_brass_11 : decode cX8_brass 11 = .ok (.iconst 1, 1) := by decide +kernel
theorem dX8_brass_12 : decode cX8_brass 12 = .ok (.goto 44, 3) := by decide +kernel
theorem dX8_brass_15 : decode cX8_brass 15 = .ok (.iload_n 2, 1) := by decide +kernel
theorem dX8_brass_16 : decode cX8_brass 16 = .ok (.iconst 1, 1) := by decide +kernel
theorem dX8_brass_17 : decode cX8_brass 17 = .ok (.sipush 10000, 3) := by decide +kernel
theorem dX8_brass_20 : decode cX8_brass 20 = .ok (.invokestatic 123, 3) := by decide +kernel
theorem dX8_brass_23 : decode cX8_brass 23 = .ok (.ifCond .ne 7, 3) := by decide +kernel
theorem dX8_brass_26 : decode cX8_brass 26 = .ok (.iconst 2, 1) := by decide +kernel
theorem dX8_brass_27 : decode cX8_brass 27 = .ok (.goto 29, 3) := by decide +kernel
theorem dX8_brass_30 : decode cX8_brass 30 = .ok (.aload_n 0, 1) := by decide +kernel
theorem dX8_brass_31 : decode cX8_brass 31 = .ok (.iload_n 1, 1) := by decide +kernel
theorem dX8_brass_32 : decode cX8_brass 32 = .ok (.invokevirtual 155, 3) := by decide +kernel
theorem dX8_brass_35 : decode cX8_brass 35 = .ok (.ifCond .ne 16, 3) := by decide +kernel
theorem dX8_brass_38 : decode cX8_brass 38 = .ok (.aload_n 0, 1) := by decide +kernel
theorem dX8_brass_39 : decode cX8_brass 39 = .ok (.getfield 38, 3) := by decide +kernel
theorem dX8_brass_42 : decode cX8_brass 42 = .ok (.iload_n 1, 1) := by decide +kernel
theorem dX8_brass_43 : decode cX8_brass 43 = .ok (.iaload, 1) := by decide +kernel
theorem dX8_brass_44 : decode cX8_brass 44 = .ok (.iload_n 2, 1) := by decide +kernel
theorem dX8_brass_45 : decode cX8_brass 45 = .ok (.iadd, 1) := by decide +kernel
theorem dX8_brass_46 : decode cX8_brass 46 = .ok (.ldc 133, 2) := by decide +kernel
theorem dX8_brass_48 : decode cX8_brass 48 = .ok (.if_icmp .le 7, 3) := by decide +kernel
theorem dX8_brass_51 : decode cX8_brass 51 = .ok (.iconst 3, 1) := by decide +kernel
theorem dX8_brass_52 : decode cX8_brass 52 = .ok (.goto 4, 3) := by decide +kernel
theorem dX8_brass_55 : decode cX8_brass 55 = .ok (.iconst 0, 1) := by decide +kernel
theorem dX8_brass_56 : decode cX8_brass 56 = .ok (.invokevirtual 145, 3) := by decide +kernel
theorem dX8_brass_59 : decode cX8_brass 59 = .ok (.ifCond .ne 5, 3) := by decide +kernel
theorem dX8_brass_62 : decode cX8_brass 62 = .ok (.iconst 0, 1) := by decide +kernel
theorem dX8_brass_63 : decode cX8_brass 63 = .ok (.ireturn, 1) := by decide +kernel
theorem dX8_brass_64 : decode cX8_brass 64 = .ok (.aload_n 0, 1) := by decide +kernel
theorem dX8_brass_65 : decode cX8_brass 65 = .ok (.getfield 38, 3) := by decide +kernel
theorem dX8_brass_68 : decode cX8_brass 68 = .ok (.iload_n 1, 1) := by decide +kernel
theorem dX8_brass_69 : decode cX8_brass 69 = .ok (.dup2, 1) := by decide +kernel
theorem dX8_brass_70 : decode cX8_brass 70 = .ok (.iaload, 1) := by decide +kernel
theorem dX8_brass_71 : decode cX8_brass 71 = .ok (.iload_n 2, 1) := by decide +kernel
theorem dX8_brass_72 : decode cX8_brass 72 = .ok (.iadd, 1) := by decide +kernel
theorem dX8_brass_73 : decode cX8_brass 73 = .ok (.iastore, 1) := by decide +kernel
theorem dX8_brass_74 : decode cX8_brass 74 = .ok (.aload_n 0, 1) := by decide +kernel
theorem dX8_brass_75 : decode cX8_brass 75 = .ok (.getfield 38, 3) := by decide +kernel
theorem dX8_brass_78 : decode cX8_brass 78 = .ok (.iload_n 1, 1) := by decide +kernel
theorem dX8_brass_79 : decode cX8_brass 79 = .ok (.iaload, 1) := by decide +kernel
theorem dX8_brass_80 : decode cX8_brass 80 = .ok (.ireturn, 1) := by decide +kernel
theorem dX8_sell_0 : decode cX8_sell 0 = .ok (.aload_n 0, 1) := by decide +kernel
theorem dX8_sell_1 : decode cX8_sell 1 = .ok (.iload_n 1, 1) := by decide +kernel
theorem dX8_sell_2 : decode cX8_sell 2 = .ok (.invokevirtual 176, 3) := by decide +kernel
theorem dX8_sell_5 : decode cX8_sell 5 = .ok (.istore_n 3, 1) := by decide +kernel
theorem dX8_sell_6 : decode cX8_sell 6 = .ok (.aload_n 0, 1) := by decide +kernel
theorem dX8_sell_7 : decode cX8_sell 7 = .ok (.iload_n 3, 1) := by decide +kernel
theorem dX8_sell_8 : decode cX8_sell 8 = .ok (.ifCond .ne 7, 3) := by decide +kernel
theorem dX8_sell_11 : decode cX8_sell 11 = .ok (.iconst 1, 1) := by decide +kernel
theorem dX8_sell_12 : decode cX8_sell 12 = .ok (.goto 47, 3) := by decide +kernel
theorem dX8_sell_15 : decode cX8_sell 15 = .ok (.iload_n 2, 1) := by decide +kernel
theorem dX8_sell_16 : decode cX8_sell 16 = .ok (.iconst 1, 1) := by decide +kernel
theorem dX8_sell_17 : decode cX8_sell 17 = .ok (.ldc 218, 2) := by decide +kernel
theorem dX8_sell_19 : decode cX8_sell 19 = .ok (.invokestatic 123, 3) := by decide +kernel
theorem dX8_sell_22 : decode cX8_sell 22 = .ok (.ifCond .ne 7, 3) := by decide +kernel
theorem dX8_sell_25 : decode cX8_sell 25 = .ok (.iconst 2, 1) := by decide +kernel
theorem dX8_sell_26 : decode cX8_sell 26 = .ok (.goto 33, 3) := by decide +kernel
theorem dX8_sell_29 : decode cX8_sell 29 = .ok (.aload_n 0, 1) := by decide +kernel
theorem dX8_sell_30 : decode cX8_sell 30 = .ok (.iload_n 1, 1) := by decide +kernel
theorem dX8_sell_31 : decode cX8_sell 31 = .ok (.invokevirtual 155, 3) := by decide +kernel
theorem dX8_sell_34 : decode cX8_sell 34 = .ok (.ifCond .ne 20, 3) := by decide +kernel
theorem dX8_sell_37 : decode cX8_sell 37 = .ok (.aload_n 0, 1) := by decide +kernel
theorem dX8_sell_38 : decode cX8_sell 38 = .ok (.getfield 35, 3) := by decide +kernel
theorem dX8_sell_41 : decode cX8_sell 41 = .ok (.iload_n 1, 1) := by decide +kernel
theorem dX8_sell_42 : decode cX8_sell 42 = .ok (.iaload, 1) := by decide +kernel
theorem dX8_sell_43 : decode cX8_sell 43 = .ok (.aload_n 0, 1) := by decide +kernel
theorem dX8_sell_44 : decode cX8_sell 44 = .ok (.getfield 38, 3) := by decide +kernel
theorem dX8_sell_47 : decode cX8_sell 47 = .ok (.iload_n 1, 1) := by decide +kernel
theorem dX8_sell_48 : decode cX8_sell 48 = .ok (.iaload, 1) := by decide +kernel
theorem dX8_sell_49 : decode cX8_sell 49 = .ok (.iadd, 1) := by decide +kernel
theorem dX8_sell_50 : decode cX8_sell 50 = .ok (.iload_n 2, 1) := by decide +kernel
theorem dX8_sell_51 : decode cX8_sell 51 = .ok (.if_icmp .ge 7, 3) := by decide +kernel
theorem dX8_sell_54 : decode cX8_sell 54 = .ok (.iconst 3, 1) := by decide +kernel
theorem dX8_sell_55 : decode cX8_sell 55 = .ok (.goto 4, 3) := by decide +kernel
theorem dX8_sell_58 : decode cX8_sell 58 = .ok (.iconst 0, 1) := by decide +kernel
theorem dX8_sell_59 : decode cX8_sell 59 = .ok (.invokevirtual 145, 3) := by decide +kernel
theorem dX8_sell_62 : decode cX8_sell 62 = .ok (.ifCond .ne 5, 3) := by decide +kernel
theorem dX8_sell_65 : decode cX8_sell 65 = .ok (.iconst 0, 1) := by decide +kernel
theorem dX8_sell_66 : decode cX8_sell 66 = .ok (.ireturn, 1) := by decide +kernel
theorem dX8_sell_67 : decode cX8_sell 67 = .ok (.aload_n 0, 1) := by decide +kernel
theorem dX8_sell_68 : decode cX8_sell 68 = .ok (.getfield 35, 3) := by decide +kernel
theorem dX8_sell_71 : decode cX8_sell 71 = .ok (.iload_n 1, 1) := by decide +kernel
theorem dX8_sell_72 : decode cX8_sell 72 = .ok (.iaload, 1) := by decide +kernel
theorem dX8_sell_73 : decode cX8_sell 73 = .ok (.aload_n 0, 1) := by decide +kernel
theorem dX8_sell_74 : decode cX8_sell 74 = .ok (.getfield 38, 3) := by decide +kernel
theorem dX8_sell_77 : decode cX8_sell 77 = .ok (.iload_n 1, 1) := by decide +kernel
theorem dX8_sell_78 : decode cX8_sell 78 = .ok (.iaload, 1) := by decide +kernel
theorem dX8_sell_79 : decode cX8_sell 79 = .ok (.iadd, 1) := by decide +kernel
theorem dX8_sell_80 : decode cX8_sell 80 = .ok (.istore 4, 2) := by decide +kernel
theorem dX8_sell_82 : decode cX8_sell 82 = .ok (.bipush 20, 2) := by decide +kernel
theorem dX8_sell_84 : decode cX8_sell 84 = .ok (.aload_n 0, 1) := by decide +kernel
theorem dX8_sell_85 : decode cX8_sell 85 = .ok (.getfield 38, 3) := by decide +kernel
theorem dX8_sell_88 : decode cX8_sell 88 = .ok (.iload_n 1, 1) := by decide +kernel
theorem dX8_sell_89 : decode cX8_sell 89 = .ok (.iaload, 1) := by decide +kernel
theorem dX8_sell_90 : decode cX8_sell 90 = .ok (.imul, 1) := by decide +kernel
theorem dX8_sell_91 : decode cX8_sell 91 = .ok (.iload 4, 2) := by decide +kernel
theorem dX8_sell_93 : decode cX8_sell 93 = .ok (.if_icmp .le 15, 3) := by decide +kernel
theorem dX8_sell_96 : decode cX8_sell 96 = .ok (.aload_n 0, 1) := by decide +kernel
theorem dX8_sell_97 : decode cX8_sell 97 = .ok (.getfield 50, 3) := by decide +kernel
theorem dX8_sell_100 : decode cX8_sell 100 = .ok (.iload_n 1, 1) := by decide +kernel
theorem dX8_sell_101 : decode cX8_sell 101 = .ok (.dup2, 1) := by decide +kernel
theorem dX8_sell_102 : decode cX8_sell 102 = .ok (.iaload, 1) := by decide +kernel
theorem dX8_sell_103 : decode cX8_sell 103 = .ok (.iconst 1, 1) := by decide +kernel
theorem dX8_sell_104 : decode cX8_sell 104 = .ok (.iadd, 1) := by decide +kernel
theorem dX8_sell_105 : decode cX8_sell 105 = .ok (.iastore, 1) := by decide +kernel
theorem dX8_sell_106 : decode cX8_sell 106 = .ok (.iconst (-1), 1) := by decide +kernel
theorem dX8_sell_107 : decode cX8_sell 107 = .ok (.ireturn, 1) := by decide +kernel
theorem dX8_sell_108 : decode cX8_sell 108 = .ok (.iload_n 2, 1) := by decide +kernel
theorem dX8_sell_109 : decode cX8_sell 109 = .ok (.i2l, 1) := by decide +kernel
theorem dX8_sell_110 : decode cX8_sell 110 = .ok (.aload_n 0, 1) := by decide +kernel
theorem dX8_sell_111 : decode cX8_sell 111 = .ok (.getfield 38, 3) := by decide +kernel
theorem dX8_sell_114 : decode cX8_sell 114 = .ok (.iload_n 1, 1) := by decide +kernel
theorem dX8_sell_115 : decode cX8_sell 115 = .ok (.iaload, 1) := by decide +kernel
theorem dX8_sell_116 : decode cX8_sell 116 = .ok (.i2l, 1) := by decide +kernel
theorem dX8_sell_117 : decode cX8_sell 117 = .ok (.lmul, 1) := by decide +kernel
theorem dX8_sell_118 : decode cX8_sell 118 = .ok (.iload 4, 2) := by decide +kernel
theorem dX8_sell_120 : decode cX8_sell 120 = .ok (.i2l, 1) := by decide +kernel
theorem dX8_sell_121 : decode cX8_sell 121 = .ok (.ldiv, 1) := by decide +kernel
theorem dX8_sell_122 : decode cX8_sell 122 = .ok (.l2i, 1) := by decide +kernel
theorem dX8_sell_123 : decode cX8_sell 123 = .ok (.istore 5, 2) := by decide +kernel
theorem dX8_sell_125 : decode cX8_sell 125 = .ok (.aload_n 0, 1) := by decide +kernel
theorem dX8_sell_126 : decode cX8_sell 126 = .ok (.getfield 38, 3) := by decide +kernel
theorem dX8_sell_129 : decode cX8_sell 129 = .ok (.iload_n 1, 1) := by decide +kernel
theorem dX8_sell_130 : decode cX8_sell 130 = .ok (.dup2, 1) := by decide +kernel
theorem dX8_sell_131 : decode cX8_sell 131 = .ok (.iaload, 1) := by decide +kernel
theorem dX8_sell_132 : decode cX8_sell 132 = .ok (.iload 5, 2) := by decide +kernel
theorem dX8_sell_134 : decode cX8_sell 134 = .ok (.isub, 1) := by decide +kernel
theorem dX8_sell_135 : decode cX8_sell 135 = .ok (.iastore, 1) := by decide +kernel
theorem dX8_sell_136 : decode cX8_sell 136 = .ok (.aload_n 0, 1) := by decide +kernel
theorem dX8_sell_137 : decode cX8_sell 137 = .ok (.getfield 35, 3) := by decide +kernel
theorem dX8_sell_140 : decode cX8_sell 140 = .ok (.iload_n 1, 1) := by decide +kernel
theorem dX8_sell_141 : decode cX8_sell 141 = .ok (.dup2, 1) := by decide +kernel
theorem dX8_sell_142 : decode cX8_sell 142 = .ok (.iaload, 1) := by decide +kernel
theorem dX8_sell_143 : decode cX8_sell 143 = .ok (.iload_n 2, 1) := by decide +kernel
theorem dX8_sell_144 : decode cX8_sell 144 = .ok (.iload 5, 2) := by decide +kernel
theorem dX8_sell_146 : decode cX8_sell 146 = .ok (.isub, 1) := by decide +kernel
theorem dX8_sell_147 : decode cX8_sell 147 = .ok (.isub, 1) := by decide +kernel
theorem dX8_sell_148 : decode cX8_sell 148 = .ok (.iastore, 1) := by decide +kernel
theorem dX8_sell_149 : decode cX8_sell 149 = .ok (.aload_n 0, 1) := by decide +kernel
theorem dX8_sell_150 : decode cX8_sell 150 = .ok (.dup, 1) := by decide +kernel
theorem dX8_sell_151 : decode cX8_sell 151 = .ok (.getfield 219, 3) := by decide +kernel
theorem dX8_sell_154 : decode cX8_sell 154 = .ok (.iload_n 2, 1) := by decide +kernel
theorem dX8_sell_155 : decode cX8_sell 155 = .ok (.iload 5, 2) := by decide +kernel
theorem dX8_sell_157 : decode cX8_sell 157 = .ok (.isub, 1) := by decide +kernel
theorem dX8_sell_158 : decode cX8_sell 158 = .ok (.iadd, 1) := by decide +kernel
theorem dX8_sell_159 : decode cX8_sell 159 = .ok (.putfield 219, 3) := by decide +kernel
theorem dX8_sell_162 : decode cX8_sell 162 = .ok (.iload_n 2, 1) := by decide +kernel
theorem dX8_sell_163 : decode cX8_sell 163 = .ok (.i2l, 1) := by decide +kernel
theorem dX8_sell_164 : decode cX8_sell 164 = .ok (.aload_n 0, 1) := by decide +kernel
theorem dX8_sell_165 : decode cX8_sell 165 = .ok (.getfield 19, 3) := by decide +kernel
theorem dX8_sell_168 : decode cX8_sell 168 = .ok (.i2l, 1) := by decide +kernel
theorem dX8_sell_169 : decode cX8_sell 169 = .ok (.lmul, 1) := by decide +kernel
theorem dX8_sell_170 : decode cX8_sell 170 = .ok (.ldc2_w 222, 3) := by decide +kernel
theorem dX8_sell_173 : decode cX8_sell 173 = .ok (.ldiv, 1) := by decide +kernel
theorem dX8_sell_174 : decode cX8_sell 174 = .ok (.l2i, 1) := by decide +kernel
theorem dX8_sell_175 : decode cX8_sell 175 = .ok (.istore 6, 2) := by decide +kernel
theorem dX8_sell_177 : decode cX8_sell 177 = .ok (.aload_n 0, 1) := by decide +kernel
theorem dX8_sell_178 : decode cX8_sell 178 = .ok (.getfield 44, 3) := by decide +kernel
theorem dX8_sell_181 : decode cX8_sell 181 = .ok (.iload_n 1, 1) := by decide +kernel
theorem dX8_sell_182 : decode cX8_sell 182 = .ok (.dup2, 1) := by decide +kernel
theorem dX8_sell_183 : decode cX8_sell 183 = .ok (.iaload, 1) := by decide +kernel
theorem dX8_sell_184 : decode cX8_sell 184 = .ok (.iload 6, 2) := by decide +kernel
theorem dX8_sell_186 : decode cX8_sell 186 = .ok (.iadd, 1) := by decide +kernel
theorem dX8_sell_187 : decode cX8_sell 187 = .ok (.iastore, 1) := by decide +kernel
theorem dX8_sell_188 : decode cX8_sell 188 = .ok (.iload 6, 2) := by decide +kernel
theorem dX8_sell_190 : decode cX8_sell 190 = .ok (.ireturn, 1) := by decide +kernel
theorem dX8_rate_0 : decode cX8_rate 0 = .ok (.aload_n 0, 1) := by decide +kernel
theorem dX8_rate_1 : decode cX8_rate 1 = .ok (.iload_n 1, 1) := by decide +kernel
theorem dX8_rate_2 : decode cX8_rate 2 = .ok (.iconst 1, 1) := by decide +kernel
theorem dX8_rate_3 : decode cX8_rate 3 = .ok (.bipush 100, 2) := by decide +kernel
theorem dX8_rate_5 : decode cX8_rate 5 = .ok (.invokestatic 123, 3) := by decide +kernel
theorem dX8_rate_8 : decode cX8_rate 8 = .ok (.ifCond .eq 7, 3) := by decide +kernel
theorem dX8_rate_11 : decode cX8_rate 11 = .ok (.iconst 0, 1) := by decide +kernel
theorem dX8_rate_12 : decode cX8_rate 12 = .ok (.goto 4, 3) := by decide +kernel
theorem dX8_rate_15 : decode cX8_rate 15 = .ok (.iconst 1, 1) := by decide +kernel
theorem dX8_rate_16 : decode cX8_rate 16 = .ok (.invokevirtual 145, 3) := by decide +kernel
theorem dX8_rate_19 : decode cX8_rate 19 = .ok (.ifCond .ne 5, 3) := by decide +kernel
theorem dX8_rate_22 : decode cX8_rate 22 = .ok (.iconst 0, 1) := by decide +kernel
theorem dX8_rate_23 : decode cX8_rate 23 = .ok (.ireturn, 1) := by decide +kernel
theorem dX8_rate_24 : decode cX8_rate 24 = .ok (.aload_n 0, 1) := by decide +kernel
theorem dX8_rate_25 : decode cX8_rate 25 = .ok (.getfield 19, 3) := by decide +kernel
theorem dX8_rate_28 : decode cX8_rate 28 = .ok (.istore_n 2, 1) := by decide +kernel
theorem dX8_rate_29 : decode cX8_rate 29 = .ok (.aload_n 0, 1) := by decide +kernel
theorem dX8_rate_30 : decode cX8_rate 30 = .ok (.iload_n 1, 1) := by decide +kernel
theorem dX8_rate_31 : decode cX8_rate 31 = .ok (.putfield 19, 3) := by decide +kernel
theorem dX8_rate_34 : decode cX8_rate 34 = .ok (.iload_n 2, 1) := by decide +kernel
theorem dX8_rate_35 : decode cX8_rate 35 = .ok (.ireturn, 1) := by decide +kernel
theorem dX8_price_0 : decode cX8_price 0 = .ok (.aload_n 0, 1) := by decide +kernel
theorem dX8_price_1 : decode cX8_price 1 = .ok (.getfield 22, 3) := by decide +kernel
theorem dX8_price_4 : decode cX8_price 4 = .ok (.bipush 100, 2) := by decide +kernel
theorem dX8_price_6 : decode cX8_price 6 = .ok (.if_icmp .ge 17, 3) := by decide +kernel
theorem dX8_price_9 : decode cX8_price 9 = .ok (.iconst 5, 1) := by decide +kernel
theorem dX8_price_10 : decode cX8_price 10 = .ok (.bipush 100, 2) := by decide +kernel
theorem dX8_price_12 : decode cX8_price 12 = .ok (.aload_n 0, 1) := by decide +kernel
theorem dX8_price_13 : decode cX8_price 13 = .ok (.getfield 22, 3) := by decide +kernel
theorem dX8_price_16 : decode cX8_price 16 = .ok (.isub, 1) := by decide +kernel
theorem dX8_price_17 : decode cX8_price 17 = .ok (.iconst 5, 1) := by decide +kernel
theorem dX8_price_18 : decode cX8_price 18 = .ok (.idiv, 1) := by decide +kernel
theorem dX8_price_19 : decode cX8_price 19 = .ok (.iadd, 1) := by decide +kernel
theorem dX8_price_20 : decode cX8_price 20 = .ok (.goto 4, 3) := by decide +kernel
theorem dX8_price_23 : decode cX8_price 23 = .ok (.iconst 5, 1) := by decide +kernel
theorem dX8_price_24 : decode cX8_price 24 = .ok (.ireturn, 1) := by decide +kernel
theorem dX8_freight_0 : decode cX8_freight 0 = .ok (.iload_n 1, 1) := by decide +kernel
theorem dX8_freight_1 : decode cX8_freight 1 = .ok (.iconst 1, 1) := by decide +kernel
theorem dX8_freight_2 : decode cX8_freight 2 = .ok (.sipush 1000, 3) := by decide +kernel
theorem dX8_freight_5 : decode cX8_freight 5 = .ok (.invokestatic 123, 3) := by decide +kernel
theorem dX8_freight_8 : decode cX8_freight 8 = .ok (.ifCond .eq 23, 3) := by decide +kernel
theorem dX8_freight_11 : decode cX8_freight 11 = .ok (.iload_n 2, 1) := by decide +kernel
theorem dX8_freight_12 : decode cX8_freight 12 = .ok (.aload_n 0, 1) := by decide +kernel
theorem dX8_freight_13 : decode cX8_freight 13 = .ok (.getfield 138, 3) := by decide +kernel
theorem dX8_freight_16 : decode cX8_freight 16 = .ok (.iconst 1, 1) := by decide +kernel
theorem dX8_freight_17 : decode cX8_freight 17 = .ok (.iadd, 1) := by decide +kernel
theorem dX8_freight_18 : decode cX8_freight 18 = .ok (.sipush 5000, 3) := by decide +kernel
theorem dX8_freight_21 : decode cX8_freight 21 = .ok (.invokestatic 123, 3) := by decide +kernel
theorem dX8_freight_24 : decode cX8_freight 24 = .ok (.ifCond .eq 7, 3) := by decide +kernel
theorem dX8_freight_27 : decode cX8_freight 27 = .ok (.iconst 1, 1) := by decide +kernel
theorem dX8_freight_28 : decode cX8_freight 28 = .ok (.goto 4, 3) := by decide +kernel
theorem dX8_freight_31 : decode cX8_freight 31 = .ok (.iconst 0, 1) := by decide +kernel
theorem dX8_freight_32 : decode cX8_freight 32 = .ok (.istore_n 3, 1) := by decide +kernel
theorem dX8_freight_33 : decode cX8_freight 33 = .ok (.aload_n 0, 1) := by decide +kernel
theorem dX8_freight_34 : decode cX8_freight 34 = .ok (.iload_n 3, 1) := by decide +kernel
theorem dX8_freight_35 : decode cX8_freight 35 = .ok (.ifCond .ne 7, 3) := by decide +kernel
theorem dX8_freight_38 : decode cX8_freight 38 = .ok (.iconst 1, 1) := by decide +kernel
theorem dX8_freight_39 : decode cX8_freight 39 = .ok (.goto 17, 3) := by decide +kernel
theorem dX8_freight_42 : decode cX8_freight 42 = .ok (.aload_n 0, 1) := by decide +kernel
theorem dX8_freight_43 : decode cX8_freight 43 = .ok (.getfield 152, 3) := by decide +kernel
theorem dX8_freight_46 : decode cX8_freight 46 = .ok (.bipush 20, 2) := by decide +kernel
theorem dX8_freight_48 : decode cX8_freight 48 = .ok (.if_icmp .ne 7, 3) := by decide +kernel
theorem dX8_freight_51 : decode cX8_freight 51 = .ok (.iconst 2, 1) := by decide +kernel
theorem dX8_freight_52 : decode cX8_freight 52 = .ok (.goto 4, 3) := by decide +kernel
theorem dX8_freight_55 : decode cX8_freight 55 = .ok (.iconst 0, 1) := by decide +kernel
theorem dX8_freight_56 : decode cX8_freight 56 = .ok (.invokevirtual 145, 3) := by decide +kernel
theorem dX8_freight_59 : decode cX8_freight 59 = .ok (.ifCond .eq 33, 3) := by decide +kernel
theorem dX8_freight_62 : decode cX8_freight 62 = .ok (.aload_n 0, 1) := by decide +kernel
theorem dX8_freight_63 : decode cX8_freight 63 = .ok (.getfield 99, 3) := by decide +kernel
theorem dX8_freight_66 : decode cX8_freight 66 = .ok (.aload_n 0, 1) := by decide +kernel
theorem dX8_freight_67 : decode cX8_freight 67 = .ok (.getfield 152, 3) := by decide +kernel
theorem dX8_freight_70 : decode cX8_freight 70 = .ok (.iload_n 1, 1) := by decide +kernel
theorem dX8_freight_71 : decode cX8_freight 71 = .ok (.iastore, 1) := by decide +kernel
theorem dX8_freight_72 : decode cX8_freight 72 = .ok (.aload_n 0, 1) := by decide +kernel
theorem dX8_freight_73 : decode cX8_freight 73 = .ok (.getfield 102, 3) := by decide +kernel
theorem dX8_freight_76 : decode cX8_freight 76 = .ok (.aload_n 0, 1) := by decide +kernel
theorem dX8_freight_77 : decode cX8_freight 77 = .ok (.getfield 152, 3) := by decide +kernel
theorem dX8_freight_80 : decode cX8_freight 80 = .ok (.iload_n 2, 1) := by decide +kernel
theorem dX8_freight_81 : decode cX8_freight 81 = .ok (.iastore, 1) := by decide +kernel
theorem dX8_freight_82 : decode cX8_freight 82 = .ok (.aload_n 0, 1) := by decide +kernel
theorem dX8_freight_83 : decode cX8_freight 83 = .ok (.dup, 1) := by decide +kernel
theorem dX8_freight_84 : decode cX8_freight 84 = .ok (.getfield 152, 3) := by decide +kernel
theorem dX8_freight_87 : decode cX8_freight 87 = .ok (.iconst 1, 1) := by decide +kernel
theorem dX8_freight_88 : decode cX8_freight 88 = .ok (.iadd, 1) := by decide +kernel
theorem dX8_freight_89 : decode cX8_freight 89 = .ok (.putfield 152, 3) := by decide +kernel
theorem dX8_freight_92 : decode cX8_freight 92 = .ok (.return_, 1) := by decide +kernel
theorem dX8_buy_0 : decode cX8_buy 0 = .ok (.aload_n 0, 1) := by decide +kernel
theorem dX8_buy_1 : decode cX8_buy 1 = .ok (.iload_n 1, 1) := by decide +kernel
theorem dX8_buy_2 : decode cX8_buy 2 = .ok (.invokevirtual 176, 3) := by decide +kernel
theorem dX8_buy_5 : decode cX8_buy 5 = .ok (.istore_n 3, 1) := by decide +kernel
theorem dX8_buy_6 : decode cX8_buy 6 = .ok (.iload_n 3, 1) := by decide +kernel
theorem dX8_buy_7 : decode cX8_buy 7 = .ok (.ifCond .eq 49, 3) := by decide +kernel
theorem dX8_buy_10 : decode cX8_buy 10 = .ok (.iload_n 2, 1) := by decide +kernel
theorem dX8_buy_11 : decode cX8_buy 11 = .ok (.iconst 1, 1) := by decide +kernel
theorem dX8_buy_12 : decode cX8_buy 12 = .ok (.sipush 1000, 3) := by decide +kernel
theorem dX8_buy_15 : decode cX8_buy 15 = .ok (.invokestatic 123, 3) := by decide +kernel
theorem dX8_buy_18 : decode cX8_buy 18 = .ok (.ifCond .eq 38, 3) := by decide +kernel
theorem dX8_buy_21 : decode cX8_buy 21 = .ok (.aload_n 0, 1) := by decide +kernel
theorem dX8_buy_22 : decode cX8_buy 22 = .ok (.iload_n 1, 1) := by decide +kernel
theorem dX8_buy_23 : decode cX8_buy 23 = .ok (.invokevirtual 155, 3) := by decide +kernel
theorem dX8_buy_26 : decode cX8_buy 26 = .ok (.ifCond .ne 30, 3) := by decide +kernel
theorem dX8_buy_29 : decode cX8_buy 29 = .ok (.iload_n 2, 1) := by decide +kernel
theorem dX8_buy_30 : decode cX8_buy 30 = .ok (.aload_n 0, 1) := by decide +kernel
theorem dX8_buy_31 : decode cX8_buy 31 = .ok (.getfield 22, 3) := by decide +kernel
theorem dX8_buy_34 : decode cX8_buy 34 = .ok (.if_icmp .gt 22, 3) := by decide +kernel
theorem dX8_buy_37 : decode cX8_buy 37 = .ok (.aload_n 0, 1) := by decide +kernel
theorem dX8_buy_38 : decode cX8_buy 38 = .ok (.getfield 44, 3) := by decide +kernel
theorem dX8_buy_41 : decode cX8_buy 41 = .ok (.iload_n 1, 1) := by decide +kernel
theorem dX8_buy_42 : decode cX8_buy 42 = .ok (.iaload, 1) := by decide +kernel
theorem dX8_buy_43 : decode cX8_buy 43 = .ok (.iload_n 2, 1) := by decide +kernel
theorem dX8_buy_44 : decode cX8_buy 44 = .ok (.aload_n 0, 1) := by decide +kernel
theorem dX8_buy_45 : decode cX8_buy 45 = .ok (.invokevirtual 224, 3) := by decide +kernel
theorem dX8_buy_48 : decode cX8_buy 48 = .ok (.imul, 1) := by decide +kernel
theorem dX8_buy_49 : decode cX8_buy 49 = .ok (.if_icmp .lt 7, 3) := by decide +kernel
theorem dX8_buy_52 : decode cX8_buy 52 = .ok (.iconst 1, 1) := by decide +kernel
theorem dX8_buy_53 : decode cX8_buy 53 = .ok (.goto 4, 3) := by decide +kernel
theorem dX8_buy_56 : decode cX8_buy 56 = .ok (.iconst 0, 1) := by decide +kernel
theorem dX8_buy_57 : decode cX8_buy 57 = .ok (.istore 4, 2) := by decide +kernel
theorem dX8_buy_59 : decode cX8_buy 59 = .ok (.aload_n 0, 1) := by decide +kernel
theorem dX8_buy_60 : decode cX8_buy 60 = .ok (.iload_n 3, 1) := by decide +kernel
theorem dX8_buy_61 : decode cX8_buy 61 = .ok (.ifCond .ne 7, 3) := by decide +kernel
theorem dX8_buy_64 : decode cX8_buy 64 = .ok (.iconst 1, 1) := by decide +kernel
theorem dX8_buy_65 : decode cX8_buy 65 = .ok (.goto 28, 3) := by decide +kernel
theorem dX8_buy_68 : decode cX8_buy 68 = .ok (.iload_n 2, 1) := by decide +kernel
theorem dX8_buy_69 : decode cX8_buy 69 = .ok (.iconst 1, 1) := by decide +kernel
theorem dX8_buy_70 : decode cX8_buy 70 = .ok (.sipush 1000, 3) := by decide +kernel
theorem dX8_buy_73 : decode cX8_buy 73 = .ok (.invokestatic 123, 3) := by decide +kernel
theorem dX8_buy_76 : decode cX8_buy 76 = .ok (.ifCond .ne 7, 3) := by decide +kernel
theorem dX8_buy_79 : decode cX8_buy 79 = .ok (.iconst 2, 1) := by decide +kernel
theorem dX8_buy_80 : decode cX8_buy 80 = .ok (.goto 13, 3) := by decide +kernel
theorem dX8_buy_83 : decode cX8_buy 83 = .ok (.iload 4, 2) := by decide +kernel
theorem dX8_buy_85 : decode cX8_buy 85 = .ok (.ifCond .eq 7, 3) := by decide +kernel
theorem dX8_buy_88 : decode cX8_buy 88 = .ok (.iconst 0, 1) := by decide +kernel
theorem dX8_buy_89 : decode cX8_buy 89 = .ok (.goto 4, 3) := by decide +kernel
theorem dX8_buy_92 : decode cX8_buy 92 = .ok (.iconst 3, 1) := by decide +kernel
theorem dX8_buy_93 : decode cX8_buy 93 = .ok (.invokevirtual 145, 3) := by decide +kernel
theorem dX8_buy_96 : decode cX8_buy 96 = .ok (.ifCond .ne 5, 3) := by decide +kernel
theorem dX8_buy_99 : decode cX8_buy 99 = .ok (.iconst 0, 1) := by decide +kernel
theorem dX8_buy_100 : decode cX8_buy 100 = .ok (.ireturn, 1) := by decide +kernel
theorem dX8_buy_101 : decode cX8_buy 101 = .ok (.iload_n 2, 1) := by decide +kernel
theorem dX8_buy_102 : decode cX8_buy 102 = .ok (.aload_n 0, 1) := by decide +kernel
theorem dX8_buy_103 : decode cX8_buy 103 = .ok (.invokevirtual 224, 3) := by decide +kernel
theorem dX8_buy_106 : decode cX8_buy 106 = .ok (.imul, 1) := by decide +kernel
theorem dX8_buy_107 : decode cX8_buy 107 = .ok (.istore 5, 2) := by decide +kernel
theorem dX8_buy_109 : decode cX8_buy 109 = .ok (.aload_n 0, 1) := by decide +kernel
theorem dX8_buy_110 : decode cX8_buy 110 = .ok (.dup, 1) := by decide +kernel
theorem dX8_buy_111 : decode cX8_buy 111 = .ok (.getfield 22, 3) := by decide +kernel
theorem dX8_buy_114 : decode cX8_buy 114 = .ok (.iload_n 2, 1) := by decide +kernel
theorem dX8_buy_115 : decode cX8_buy 115 = .ok (.isub, 1) := by decide +kernel
theorem dX8_buy_116 : decode cX8_buy 116 = .ok (.putfield 22, 3) := by decide +kernel
theorem dX8_buy_119 : decode cX8_buy 119 = .ok (.aload_n 0, 1) := by decide +kernel
theorem dX8_buy_120 : decode cX8_buy 120 = .ok (.getfield 41, 3) := by decide +kernel
theorem dX8_buy_123 : decode cX8_buy 123 = .ok (.iload_n 1, 1) := by decide +kernel
theorem dX8_buy_124 : decode cX8_buy 124 = .ok (.dup2, 1) := by decide +kernel
theorem dX8_buy_125 : decode cX8_buy 125 = .ok (.iaload, 1) := by decide +kernel
theorem dX8_buy_126 : decode cX8_buy 126 = .ok (.iload_n 2, 1) := by decide +kernel
theorem dX8_buy_127 : decode cX8_buy 127 = .ok (.iadd, 1) := by decide +kernel
theorem dX8_buy_128 : decode cX8_buy 128 = .ok (.iastore, 1) := by decide +kernel
theorem dX8_buy_129 : decode cX8_buy 129 = .ok (.aload_n 0, 1) := by decide +kernel
theorem dX8_buy_130 : decode cX8_buy 130 = .ok (.getfield 44, 3) := by decide +kernel
theorem dX8_buy_133 : decode cX8_buy 133 = .ok (.iload_n 1, 1) := by decide +kernel
theorem dX8_buy_134 : decode cX8_buy 134 = .ok (.dup2, 1) := by decide +kernel
theorem dX8_buy_135 : decode cX8_buy 135 = .ok (.iaload, 1) := by decide +kernel
theorem dX8_buy_136 : decode cX8_buy 136 = .ok (.iload 5, 2) := by decide +kernel
theorem dX8_buy_138 : decode cX8_buy 138 = .ok (.isub, 1) := by decide +kernel
theorem dX8_buy_139 : decode cX8_buy 139 = .ok (.iastore, 1) := by decide +kernel
theorem dX8_buy_140 : decode cX8_buy 140 = .ok (.iload 5, 2) := by decide +kernel
theorem dX8_buy_142 : decode cX8_buy 142 = .ok (.ireturn, 1) := by decide +kernel
theorem dX8_backed_0 : decode cX8_backed 0 = .ok (.iconst 0, 1) := by decide +kernel
theorem dX8_backed_1 : decode cX8_backed 1 = .ok (.istore_n 2, 1) := by decide +kernel
theorem dX8_backed_2 : decode cX8_backed 2 = .ok (.iconst 0, 1) := by decide +kernel
theorem dX8_backed_3 : decode cX8_backed 3 = .ok (.istore_n 3, 1) := by decide +kernel
theorem dX8_backed_4 : decode cX8_backed 4 = .ok (.iload_n 3, 1) := by decide +kernel
theorem dX8_backed_5 : decode cX8_backed 5 = .ok (.aload_n 0, 1) := by decide +kernel
theorem dX8_backed_6 : decode cX8_backed 6 = .ok (.getfield 127, 3) := by decide +kernel
theorem dX8_backed_9 : decode cX8_backed 9 = .ok (.if_icmp .ge 23, 3) := by decide +kernel
theorem dX8_backed_12 : decode cX8_backed 12 = .ok (.iload_n 2, 1) := by decide +kernel
theorem dX8_backed_13 : decode cX8_backed 13 = .ok (.aload_n 0, 1) := by decide +kernel
theorem dX8_backed_14 : decode cX8_backed 14 = .ok (.getfield 56, 3) := by decide +kernel
theorem dX8_backed_17 : decode cX8_backed 17 = .ok (.bipush 12, 2) := by decide +kernel
theorem dX8_backed_19 : decode cX8_backed 19 = .ok (.iload_n 1, 1) := by decide +kernel
theorem dX8_backed_20 : decode cX8_backed 20 = .ok (.imul, 1) := by decide +kernel
theorem dX8_backed_21 : decode cX8_backed 21 = .ok (.iload_n 3, 1) := by decide +kernel
theorem dX8_backed_22 : decode cX8_backed 22 = .ok (.iadd, 1) := by decide +kernel
theorem dX8_backed_23 : decode cX8_backed 23 = .ok (.iaload, 1) := by decide +kernel
theorem dX8_backed_24 : decode cX8_backed 24 = .ok (.iadd, 1) := by decide +kernel
theorem dX8_backed_25 : decode cX8_backed 25 = .ok (.istore_n 2, 1) := by decide +kernel
theorem dX8_backed_26 : decode cX8_backed 26 = .ok (.iinc 3 1, 3) := by decide +kernel
theorem dX8_backed_29 : decode cX8_backed 29 = .ok (.goto (-25), 3) := by decide +kernel
theorem dX8_backed_32 : decode cX8_backed 32 = .ok (.iload_n 2, 1) := by decide +kernel
theorem dX8_backed_33 : decode cX8_backed 33 = .ok (.ireturn, 1) := by decide +kernel
theorem dX8_back_0 : decode cX8_back 0 = .ok (.aload_n 0, 1) := by decide +kernel
theorem dX8_back_1 : decode cX8_back 1 = .ok (.iload_n 1, 1) := by decide +kernel
theorem dX8_back_2 : decode cX8_back 2 = .ok (.invokevirtual 176, 3) := by decide +kernel
theorem dX8_back_5 : decode cX8_back 5 = .ok (.ifCond .eq 15, 3) := by decide +kernel
theorem dX8_back_8 : decode cX8_back 8 = .ok (.aload_n 0, 1) := by decide +kernel
theorem dX8_back_9 : decode cX8_back 9 = .ok (.iload_n 2, 1) := by decide +kernel
theorem dX8_back_10 : decode cX8_back 10 = .ok (.invokevirtual 176, 3) := by decide +kernel
theorem dX8_back_13 : decode cX8_back 13 = .ok (.ifCond .eq 7, 3) := by decide +kernel
theorem dX8_back_16 : decode cX8_back 16 = .ok (.iconst 1, 1) := by decide +kernel
theorem dX8_back_17 : decode cX8_back 17 = .ok (.goto 4, 3) := by decide +kernel
theorem dX8_back_20 : decode cX8_back 20 = .ok (.iconst 0, 1) := by decide +kernel
theorem dX8_back_21 : decode cX8_back 21 = .ok (.istore 5, 2) := by decide +kernel
theorem dX8_back_23 : decode cX8_back 23 = .ok (.iload 5, 2) := by decide +kernel
theorem dX8_back_25 : decode cX8_back 25 = .ok (.ifCond .eq 33, 3) := by decide +kernel
theorem dX8_back_28 : decode cX8_back 28 = .ok (.iload_n 3, 1) := by decide +kernel
theorem dX8_back_29 : decode cX8_back 29 = .ok (.iconst 1, 1) := by decide +kernel
theorem dX8_back_30 : decode cX8_back 30 = .ok (.bipush 100, 2) := by decide +kernel
theorem dX8_back_32 : decode cX8_back 32 = .ok (.invokestatic 123, 3) := by decide +kernel
theorem dX8_back_35 : decode cX8_back 35 = .ok (.ifCond .eq 23, 3) := by decide +kernel
theorem dX8_back_38 : decode cX8_back 38 = .ok (.iload 4, 2) := by decide +kernel
theorem dX8_back_40 : decode cX8_back 40 = .ok (.iconst 0, 1) := by decide +kernel
theorem dX8_back_41 : decode cX8_back 41 = .ok (.ldc 133, 2) := by decide +kernel
theorem dX8_back_43 : decode cX8_back 43 = .ok (.invokestatic 123, 3) := by decide +kernel
theorem dX8_back_46 : decode cX8_back 46 = .ok (.ifCond .eq 12, 3) := by decide +kernel
theorem dX8_back_49 : decode cX8_back 49 = .ok (.iload_n 1, 1) := by decide +kernel
theorem dX8_back_50 : decode cX8_back 50 = .ok (.iload_n 2, 1) := by decide +kernel
theorem dX8_back_51 : decode cX8_back 51 = .ok (.if_icmp .eq 7, 3) := by decide +kernel
theorem dX8_back_54 : decode cX8_back 54 = .ok (.iconst 1, 1) := by decide +kernel
theorem dX8_back_55 : decode cX8_back 55 = .ok (.goto 4, 3) := by decide +kernel
theorem dX8_back_58 : decode cX8_back 58 = .ok (.iconst 0, 1) := by decide +kernel
theorem dX8_back_59 : decode cX8_back 59 = .ok (.istore 6, 2) := by decide +kernel
theorem dX8_back_61 : decode cX8_back 61 = .ok (.iload 6, 2) := by decide +kernel
theorem dX8_back_63 : decode cX8_back 63 = .ok (.ifCond .eq 60, 3) := by decide +kernel
theorem dX8_back_66 : decode cX8_back 66 = .ok (.aload_n 0, 1) := by decide +kernel
theorem dX8_back_67 : decode cX8_back 67 = .ok (.iload_n 1, 1) := by decide +kernel
theorem dX8_back_68 : decode cX8_back 68 = .ok (.invokevirtual 155, 3) := by decide +kernel
theorem dX8_back_71 : decode cX8_back 71 = .ok (.ifCond .ne 52, 3) := by decide +kernel
theorem dX8_back_74 : decode cX8_back 74 = .ok (.aload_n 0, 1) := by decide +kernel
theorem dX8_back_75 : decode cX8_back 75 = .ok (.iload_n 2, 1) := by decide +kernel
theorem dX8_back_76 : decode cX8_back 76 = .ok (.invokevirtual 155, 3) := by decide +kernel
theorem dX8_back_79 : decode cX8_back 79 = .ok (.ifCond .ne 44, 3) := by decide +kernel
theorem dX8_back_82 : decode cX8_back 82 = .ok (.aload_n 0, 1) := by decide +kernel
theorem dX8_back_83 : decode cX8_back 83 = .ok (.getfield 56, 3) := by decide +kernel
theorem dX8_back_86 : decode cX8_back 86 = .ok (.bipush 12, 2) := by decide +kernel
theorem dX8_back_88 : decode cX8_back 88 = .ok (.iload_n 2, 1) := by decide +kernel
theorem dX8_back_89 : decode cX8_back 89 = .ok (.imul, 1) := by decide +kernel
theorem dX8_back_90 : decode cX8_back 90 = .ok (.iload_n 1, 1) := by decide +kernel
theorem dX8_back_91 : decode cX8_back 91 = .ok (.iadd, 1) := by decide +kernel
theorem dX8_back_92 : decode cX8_back 92 = .ok (.iaload, 1) := by decide +kernel
theorem dX8_back_93 : decode cX8_back 93 = .ok (.ifCond .ne 30, 3) := by decide +kernel
theorem dX8_back_96 : decode cX8_back 96 = .ok (.aload_n 0, 1) := by decide +kernel
theorem dX8_back_97 : decode cX8_back 97 = .ok (.getfield 44, 3) := by decide +kernel
theorem dX8_back_100 : decode cX8_back 100 = .ok (.iload_n 1, 1) := by decide +kernel
theorem dX8_back_101 : decode cX8_back 101 = .ok (.iaload, 1) := by decide +kernel
theorem dX8_back_102 : decode cX8_back 102 = .ok (.iload 4, 2) := by decide +kernel
theorem dX8_back_104 : decode cX8_back 104 = .ok (.if_icmp .lt 19, 3) := by decide +kernel
theorem dX8_back_107 : decode cX8_back 107 = .ok (.aload_n 0, 1) := by decide +kernel
theorem dX8_back_108 : decode cX8_back 108 = .ok (.iload_n 2, 1) := by decide +kernel
theorem dX8_back_109 : decode cX8_back 109 = .ok (.invokevirtual 227, 3) := by decide +kernel
theorem dX8_back_112 : decode cX8_back 112 = .ok (.iload_n 3, 1) := by decide +kernel
theorem dX8_back_113 : decode cX8_back 113 = .ok (.iadd, 1) := by decide +kernel
theorem dX8_back_114 : decode cX8_back 114 = .ok (.bipush 100, 2) := by decide +kernel
theorem dX8_back_116 : decode cX8_back 116 = .ok (.if_icmp .gt 7, 3) := by decide +kernel
theorem dX8_back_119 : decode cX8_back 119 = .ok (.iconst 1, 1) := by decide +kernel
theorem dX8_back_120 : decode cX8_back 120 = .ok (.goto 4, 3) := by decide +kernel
theorem dX8_back_123 : decode cX8_back 123 = .ok (.iconst 0, 1) := by decide +kernel
theorem dX8_back_124 : decode cX8_back 124 = .ok (.istore 7, 2) := by decide +kernel
theorem dX8_back_126 : decode cX8_back 126 = .ok (.aload_n 0, 1) := by decide +kernel
theorem dX8_back_127 : decode cX8_back 127 = .ok (.iload 5, 2) := by decide +kernel
theorem dX8_back_129 : decode cX8_back 129 = .ok (.ifCond .ne 7, 3) := by decide +kernel
theorem dX8_back_132 : decode cX8_back 132 = .ok (.iconst 1, 1) := by decide +kernel
theorem dX8_back_133 : decode cX8_back 133 = .ok (.goto 22, 3) := by decide +kernel
theorem dX8_back_136 : decode cX8_back 136 = .ok (.iload 6, 2) := by decide +kernel
theorem dX8_back_138 : decode cX8_back 138 = .ok (.ifCond .ne 7, 3) := by decide +kernel
theorem dX8_back_141 : decode cX8_back 141 = .ok (.iconst 2, 1) := by decide +kernel
theorem dX8_back_142 : decode cX8_back 142 = .ok (.goto 13, 3) := by decide +kernel
theorem dX8_back_145 : decode cX8_back 145 = .ok (.iload 7, 2) := by decide +kernel
theorem dX8_back_147 : decode cX8_back 147 = .ok (.ifCond .eq 7, 3) := by decide +kernel
theorem dX8_back_150 : decode cX8_back 150 = .ok (.iconst 0, 1) := by decide +kernel
theorem dX8_back_151 : decode cX8_back 151 = .ok (.goto 4, 3) := by decide +kernel
theorem dX8_back_154 : decode cX8_back 154 = .ok (.iconst 3, 1) := by decide +kernel
theorem dX8_back_155 : decode cX8_back 155 = .ok (.invokevirtual 145, 3) := by decide +kernel
theorem dX8_back_158 : decode cX8_back 158 = .ok (.ifCond .eq 37, 3) := by decide +kernel
theorem dX8_back_161 : decode cX8_back 161 = .ok (.aload_n 0, 1) := by decide +kernel
theorem dX8_back_162 : decode cX8_back 162 = .ok (.getfield 56, 3) := by decide +kernel
theorem dX8_back_165 : decode cX8_back 165 = .ok (.bipush 12, 2) := by decide +kernel
theorem dX8_back_167 : decode cX8_back 167 = .ok (.iload_n 2, 1) := by decide +kernel
theorem dX8_back_168 : decode cX8_back 168 = .ok (.imul, 1) := by decide +kernel
theorem dX8_back_169 : decode cX8_back 169 = .ok (.iload_n 1, 1) := by decide +kernel
theorem dX8_back_170 : decode cX8_back 170 = .ok (.iadd, 1) := by decide +kernel
theorem dX8_back_171 : decode cX8_back 171 = .ok (.iload_n 3, 1) := by decide +kernel
theorem dX8_back_172 : decode cX8_back 172 = .ok (.iastore, 1) := by decide +kernel
theorem dX8_back_173 : decode cX8_back 173 = .ok (.aload_n 0, 1) := by decide +kernel
theorem dX8_back_174 : decode cX8_back 174 = .ok (.getfield 44, 3) := by decide +kernel
theorem dX8_back_177 : decode cX8_back 177 = .ok (.iload_n 1, 1) := by decide +kernel
theorem dX8_back_178 : decode cX8_back 178 = .ok (.dup2, 1) := by decide +kernel
theorem dX8_back_179 : decode cX8_back 179 = .ok (.iaload, 1) := by decide +kernel
theorem dX8_back_180 : decode cX8_back 180 = .ok (.iload 4, 2) := by decide +kernel
theorem dX8_back_182 : decode cX8_back 182 = .ok (.isub, 1) := by decide +kernel
theorem dX8_back_183 : decode cX8_back 183 = .ok (.iastore, 1) := by decide +kernel
theorem dX8_back_184 : decode cX8_back 184 = .ok (.aload_n 0, 1) := by decide +kernel
theorem dX8_back_185 : decode cX8_back 185 = .ok (.getfield 44, 3) := by decide +kernel
theorem dX8_back_188 : decode cX8_back 188 = .ok (.iload_n 2, 1) := by decide +kernel
theorem dX8_back_189 : decode cX8_back 189 = .ok (.dup2, 1) := by decide +kernel
theorem dX8_back_190 : decode cX8_back 190 = .ok (.iaload, 1) := by decide +kernel
theorem dX8_back_191 : decode cX8_back 191 = .ok (.iload 4, 2) := by decide +kernel
theorem dX8_back_193 : decode cX8_back 193 = .ok (.iadd, 1) := by decide +kernel
theorem dX8_back_194 : decode cX8_back 194 = .ok (.iastore, 1) := by decide +kernel
theorem dX8_back_195 : decode cX8_back 195 = .ok (.return_, 1) := by decide +kernel
theorem dX8_end_0 : decode cX8_end 0 = .ok (.aload_n 0, 1) := by decide +kernel
theorem dX8_end_1 : decode cX8_end 1 = .ok (.iload_n 1, 1) := by decide +kernel
theorem dX8_end_2 : decode cX8_end 2 = .ok (.invokevirtual 176, 3) := by decide +kernel
theorem dX8_end_5 : decode cX8_end 5 = .ok (.ifCond .eq 15, 3) := by decide +kernel
theorem dX8_end_8 : decode cX8_end 8 = .ok (.aload_n 0, 1) := by decide +kernel
theorem dX8_end_9 : decode cX8_end 9 = .ok (.iload_n 2, 1) := by decide +kernel
theorem dX8_end_10 : decode cX8_end 10 = .ok (.invokevirtual 176, 3) := by decide +kernel
theorem dX8_end_13 : decode cX8_end 13 = .ok (.ifCond .eq 7, 3) := by decide +kernel
theorem dX8_end_16 : decode cX8_end 16 = .ok (.iconst 1, 1) := by decide +kernel
theorem dX8_end_17 : decode cX8_end 17 = .ok (.goto 4, 3) := by decide +kernel
theorem dX8_end_20 : decode cX8_end 20 = .ok (.iconst 0, 1) := by decide +kernel
theorem dX8_end_21 : decode cX8_end 21 = .ok (.istore_n 3, 1) := by decide +kernel
theorem dX8_end_22 : decode cX8_end 22 = .ok (.aload_n 0, 1) := by decide +kernel
theorem dX8_end_23 : decode cX8_end 23 = .ok (.iload_n 3, 1) := by decide +kernel
theorem dX8_end_24 : decode cX8_end 24 = .ok (.ifCond .ne 7, 3) := by decide +kernel
theorem dX8_end_27 : decode cX8_end 27 = .ok (.iconst 1, 1) := by decide +kernel
theorem dX8_end_28 : decode cX8_end 28 = .ok (.goto 22, 3) := by decide +kernel
theorem dX8_end_31 : decode cX8_end 31 = .ok (.aload_n 0, 1) := by decide +kernel
theorem dX8_end_32 : decode cX8_end 32 = .ok (.getfield 56, 3) := by decide +kernel
theorem dX8_end_35 : decode cX8_end 35 = .ok (.bipush 12, 2) := by decide +kernel
theorem dX8_end_37 : decode cX8_end 37 = .ok (.iload_n 2, 1) := by decide +kernel
theorem dX8_end_38 : decode cX8_end 38 = .ok (.imul, 1) := by decide +kernel
theorem dX8_end_39 : decode cX8_end 39 = .ok (.iload_n 1, 1) := by decide +kernel
theorem dX8_end_40 : decode cX8_end 40 = .ok (.iadd, 1) := by decide +kernel
theorem dX8_end_41 : decode cX8_end 41 = .ok (.iaload, 1) := by decide +kernel
theorem dX8_end_42 : decode cX8_end 42 = .ok (.ifCond .le 7, 3) := by decide +kernel
theorem dX8_end_45 : decode cX8_end 45 = .ok (.iconst 0, 1) := by decide +kernel
theorem dX8_end_46 : decode cX8_end 46 = .ok (.goto 4, 3) := by decide +kernel
theorem dX8_end_49 : decode cX8_end 49 = .ok (.iconst 2, 1) := by decide +kernel
theorem dX8_end_50 : decode cX8_end 50 = .ok (.invokevirtual 145, 3) := by decide +kernel
theorem dX8_end_53 : decode cX8_end 53 = .ok (.ifCond .ne 5, 3) := by decide +kernel
theorem dX8_end_56 : decode cX8_end 56 = .ok (.iconst 0, 1) := by decide +kernel
theorem dX8_end_57 : decode cX8_end 57 = .ok (.ireturn, 1) := by decide +kernel
theorem dX8_end_58 : decode cX8_end 58 = .ok (.aload_n 0, 1) := by decide +kernel
theorem dX8_end_59 : decode cX8_end 59 = .ok (.getfield 56, 3) := by decide +kernel
theorem dX8_end_62 : decode cX8_end 62 = .ok (.bipush 12, 2) := by decide +kernel
theorem dX8_end_64 : decode cX8_end 64 = .ok (.iload_n 2, 1) := by decide +kernel
theorem dX8_end_65 : decode cX8_end 65 = .ok (.imul, 1) := by decide +kernel
theorem dX8_end_66 : decode cX8_end 66 = .ok (.iload_n 1, 1) := by decide +kernel
theorem dX8_end_67 : decode cX8_end 67 = .ok (.iadd, 1) := by decide +kernel
theorem dX8_end_68 : decode cX8_end 68 = .ok (.iaload, 1) := by decide +kernel
theorem dX8_end_69 : decode cX8_end 69 = .ok (.istore 4, 2) := by decide +kernel
theorem dX8_end_71 : decode cX8_end 71 = .ok (.aload_n 0, 1) := by decide +kernel
theorem dX8_end_72 : decode cX8_end 72 = .ok (.getfield 56, 3) := by decide +kernel
theorem dX8_end_75 : decode cX8_end 75 = .ok (.bipush 12, 2) := by decide +kernel
theorem dX8_end_77 : decode cX8_end 77 = .ok (.iload_n 2, 1) := by decide +kernel
theorem dX8_end_78 : decode cX8_end 78 = .ok (.imul, 1) := by decide +kernel
theorem dX8_end_79 : decode cX8_end 79 = .ok (.iload_n 1, 1) := by decide +kernel
theorem dX8_end_80 : decode cX8_end 80 = .ok (.iadd, 1) := by decide +kernel
theorem dX8_end_81 : decode cX8_end 81 = .ok (.iconst 0, 1) := by decide +kernel
theorem dX8_end_82 : decode cX8_end 82 = .ok (.iastore, 1) := by decide +kernel
theorem dX8_end_83 : decode cX8_end 83 = .ok (.iload 4, 2) := by decide +kernel
theorem dX8_end_85 : decode cX8_end 85 = .ok (.ireturn, 1) := by decide +kernel
theorem dX8_trade_0 : decode cX8_trade 0 = .ok (.aload_n 0, 1) := by decide +kernel
theorem dX8_trade_1 : decode cX8_trade 1 = .ok (.iload_n 1, 1) := by decide +kernel
theorem dX8_trade_2 : decode cX8_trade 2 = .ok (.invokevirtual 230, 3) := by decide +kernel
theorem dX8_trade_5 : decode cX8_trade 5 = .ok (.ifCond .eq 15, 3) := by decide +kernel
theorem dX8_trade_8 : decode cX8_trade 8 = .ok (.aload_n 0, 1) := by decide +kernel
theorem dX8_trade_9 : decode cX8_trade 9 = .ok (.iload_n 2, 1) := by decide +kernel
theorem dX8_trade_10 : decode cX8_trade 10 = .ok (.invokevirtual 176, 3) := by decide +kernel
theorem dX8_trade_13 : decode cX8_trade 13 = .ok (.ifCond .eq 7, 3) := by decide +kernel
theorem dX8_trade_16 : decode cX8_trade 16 = .ok (.iconst 1, 1) := by decide +kernel
theorem dX8_trade_17 : decode cX8_trade 17 = .ok (.goto 4, 3) := by decide +kernel
theorem dX8_trade_20 : decode cX8_trade 20 = .ok (.iconst 0, 1) := by decide +kernel
theorem dX8_trade_21 : decode cX8_trade 21 = .ok (.istore 4, 2) := by decide +kernel
theorem dX8_trade_23 : decode cX8_trade 23 = .ok (.iload 4, 2) := by decide +kernel
theorem dX8_trade_25 : decode cX8_trade 25 = .ok (.ifCond .eq 27, 3) := by decide +kernel
theorem dX8_trade_28 : decode cX8_trade 28 = .ok (.iload_n 3, 1) := by decide +kernel
theorem dX8_trade_29 : decode cX8_trade 29 = .ok (.iconst 0, 1) := by decide +kernel
theorem dX8_trade_30 : decode cX8_trade 30 = .ok (.ldc 133, 2) := by decide +kernel
theorem dX8_trade_32 : decode cX8_trade 32 = .ok (.invokestatic 123, 3) := by decide +kernel
theorem dX8_trade_35 : decode cX8_trade 35 = .ok (.ifCond .eq 17, 3) := by decide +kernel
theorem dX8_trade_38 : decode cX8_trade 38 = .ok (.iload_n 2, 1) := by decide +kernel
theorem dX8_trade_39 : decode cX8_trade 39 = .ok (.aload_n 0, 1) := by decide +kernel
theorem dX8_trade_40 : decode cX8_trade 40 = .ok (.getfield 59, 3) := by decide +kernel
theorem dX8_trade_43 : decode cX8_trade 43 = .ok (.iload_n 1, 1) := by decide +kernel
theorem dX8_trade_44 : decode cX8_trade 44 = .ok (.iaload, 1) := by decide +kernel
theorem dX8_trade_45 : decode cX8_trade 45 = .ok (.if_icmp .eq 7, 3) := by decide +kernel
theorem dX8_trade_48 : decode cX8_trade 48 = .ok (.iconst 1, 1) := by decide +kernel
theorem dX8_trade_49 : decode cX8_trade 49 = .ok (.goto 4, 3) := by decide +kernel
theorem dX8_trade_52 : decode cX8_trade 52 = .ok (.iconst 0, 1) := by decide +kernel
theorem dX8_trade_53 : decode cX8_trade 53 = .ok (.istore 5, 2) := by decide +kernel
theorem dX8_trade_55 : decode cX8_trade 55 = .ok (.aload_n 0, 1) := by decide +kernel
theorem dX8_trade_56 : decode cX8_trade 56 = .ok (.iload 4, 2) := by decide +kernel
theorem dX8_trade_58 : decode cX8_trade 58 = .ok (.ifCond .ne 7, 3) := by decide +kernel
theorem dX8_trade_61 : decode cX8_trade 61 = .ok (.iconst 1, 1) := by decide +kernel
theorem dX8_trade_62 : decode cX8_trade 62 = .ok (.goto 44, 3) := by decide +kernel
theorem dX8_trade_65 : decode cX8_trade 65 = .ok (.iload 5, 2) := by decide +kernel
theorem dX8_trade_67 : decode cX8_trade 67 = .ok (.ifCond .ne 7, 3) := by decide +kernel
theorem dX8_trade_70 : decode cX8_trade 70 = .ok (.iconst 2, 1) := by decide +kernel
theorem dX8_trade_71 : decode cX8_trade 71 = .ok (.goto 35, 3) := by decide +kernel
theorem dX8_trade_74 : decode cX8_trade 74 = .ok (.aload_n 0, 1) := by decide +kernel
theorem dX8_trade_75 : decode cX8_trade 75 = .ok (.getfield 68, 3) := by decide +kernel
theorem dX8_trade_78 : decode cX8_trade 78 = .ok (.iload_n 1, 1) := by decide +kernel
theorem dX8_trade_79 : decode cX8_trade 79 = .ok (.baload, 1) := by decide +kernel
theorem dX8_trade_80 : decode cX8_trade 80 = .ok (.ifCond .eq 21, 3) := by decide +kernel
theorem dX8_trade_83 : decode cX8_trade 83 = .ok (.aload_n 0, 1) := by decide +kernel
theorem dX8_trade_84 : decode cX8_trade 84 = .ok (.iload_n 2, 1) := by decide +kernel
theorem dX8_trade_85 : decode cX8_trade 85 = .ok (.invokevirtual 155, 3) := by decide +kernel
theorem dX8_trade_88 : decode cX8_trade 88 = .ok (.ifCond .ne 13, 3) := by decide +kernel
theorem dX8_trade_91 : decode cX8_trade 91 = .ok (.aload_n 0, 1) := by decide +kernel
theorem dX8_trade_92 : decode cX8_trade 92 = .ok (.getfield 44, 3) := by decide +kernel
theorem dX8_trade_95 : decode cX8_trade 95 = .ok (.iload_n 2, 1) := by decide +kernel
theorem dX8_trade_96 : decode cX8_trade 96 = .ok (.iaload, 1) := by decide +kernel
theorem dX8_trade_97 : decode cX8_trade 97 = .ok (.iload_n 3, 1) := by decide +kernel
theorem dX8_trade_98 : decode cX8_trade 98 = .ok (.if_icmp .ge 7, 3) := by decide +kernel
theorem dX8_trade_101 : decode cX8_trade 101 = .ok (.iconst 3, 1) := by decide +kernel
theorem dX8_trade_102 : decode cX8_trade 102 = .ok (.goto 4, 3) := by decide +kernel
theorem dX8_trade_105 : decode cX8_trade 105 = .ok (.iconst 0, 1) := by decide +kernel
theorem dX8_trade_106 : decode cX8_trade 106 = .ok (.invokevirtual 145, 3) := by decide +kernel
theorem dX8_trade_109 : decode cX8_trade 109 = .ok (.ifCond .ne 5, 3) := by decide +kernel
theorem dX8_trade_112 : decode cX8_trade 112 = .ok (.iconst 0, 1) := by decide +kernel
theorem dX8_trade_113 : decode cX8_trade 113 = .ok (.ireturn, 1) := by decide +kernel
theorem dX8_trade_114 : decode cX8_trade 114 = .ok (.aload_n 0, 1) := by decide +kernel
theorem dX8_trade_115 : decode cX8_trade 115 = .ok (.getfield 81, 3) := by decide +kernel
theorem dX8_trade_118 : decode cX8_trade 118 = .ok (.iload_n 1, 1) := by decide +kernel
theorem dX8_trade_119 : decode cX8_trade 119 = .ok (.aload_n 0, 1) := by decide +kernel
theorem dX8_trade_120 : decode cX8_trade 120 = .ok (.getfield 59, 3) := by decide +kernel
theorem dX8_trade_123 : decode cX8_trade 123 = .ok (.iload_n 1, 1) := by decide +kernel
theorem dX8_trade_124 : decode cX8_trade 124 = .ok (.iaload, 1) := by decide +kernel
theorem dX8_trade_125 : decode cX8_trade 125 = .ok (.iastore, 1) := by decide +kernel
theorem dX8_trade_126 : decode cX8_trade 126 = .ok (.aload_n 0, 1) := by decide +kernel
theorem dX8_trade_127 : decode cX8_trade 127 = .ok (.getfield 84, 3) := by decide +kernel
theorem dX8_trade_130 : decode cX8_trade 130 = .ok (.iload_n 1, 1) := by decide +kernel
theorem dX8_trade_131 : decode cX8_trade 131 = .ok (.iload_n 2, 1) := by decide +kernel
theorem dX8_trade_132 : decode cX8_trade 132 = .ok (.iastore, 1) := by decide +kernel
theorem dX8_trade_133 : decode cX8_trade 133 = .ok (.aload_n 0, 1) := by decide +kernel
theorem dX8_trade_134 : decode cX8_trade 134 = .ok (.getfield 87, 3) := by decide +kernel
theorem dX8_trade_137 : decode cX8_trade 137 = .ok (.iload_n 1, 1) := by decide +kernel
theorem dX8_trade_138 : decode cX8_trade 138 = .ok (.iload_n 3, 1) := by decide +kernel
theorem dX8_trade_139 : decode cX8_trade 139 = .ok (.iastore, 1) := by decide +kernel
theorem dX8_trade_140 : decode cX8_trade 140 = .ok (.aload_n 0, 1) := by decide +kernel
theorem dX8_trade_141 : decode cX8_trade 141 = .ok (.getfield 90, 3) := by decide +kernel
theorem dX8_trade_144 : decode cX8_trade 144 = .ok (.iload_n 1, 1) := by decide +kernel
theorem dX8_trade_145 : decode cX8_trade 145 = .ok (.aload_n 0, 1) := by decide +kernel
theorem dX8_trade_146 : decode cX8_trade 146 = .ok (.getfield 138, 3) := by decide +kernel
theorem dX8_trade_149 : decode cX8_trade 149 = .ok (.iastore, 1) := by decide +kernel
theorem dX8_trade_150 : decode cX8_trade 150 = .ok (.aload_n 0, 1) := by decide +kernel
theorem dX8_trade_151 : decode cX8_trade 151 = .ok (.getfield 78, 3) := by decide +kernel
theorem dX8_trade_154 : decode cX8_trade 154 = .ok (.iload_n 1, 1) := by decide +kernel
theorem dX8_trade_155 : decode cX8_trade 155 = .ok (.iconst 0, 1) := by decide +kernel
theorem dX8_trade_156 : decode cX8_trade 156 = .ok (.bastore, 1) := by decide +kernel
theorem dX8_trade_157 : decode cX8_trade 157 = .ok (.aload_n 0, 1) := by decide +kernel
theorem dX8_trade_158 : decode cX8_trade 158 = .ok (.getfield 44, 3) := by decide +kernel
theorem dX8_trade_161 : decode cX8_trade 161 = .ok (.iload_n 2, 1) := by decide +kernel
theorem dX8_trade_162 : decode cX8_trade 162 = .ok (.dup2, 1) := by decide +kernel
theorem dX8_trade_163 : decode cX8_trade 163 = .ok (.iaload, 1) := by decide +kernel
theorem dX8_trade_164 : decode cX8_trade 164 = .ok (.iload_n 3, 1) := by decide +kernel
theorem dX8_trade_165 : decode cX8_trade 165 = .ok (.isub, 1) := by decide +kernel
theorem dX8_trade_166 : decode cX8_trade 166 = .ok (.iastore, 1) := by decide +kernel
theorem dX8_trade_167 : decode cX8_trade 167 = .ok (.aload_n 0, 1) := by decide +kernel
theorem dX8_trade_168 : decode cX8_trade 168 = .ok (.getfield 44, 3) := by decide +kernel
theorem dX8_trade_171 : decode cX8_trade 171 = .ok (.aload_n 0, 1) := by decide +kernel
theorem dX8_trade_172 : decode cX8_trade 172 = .ok (.getfield 81, 3) := by decide +kernel
theorem dX8_trade_175 : decode cX8_trade 175 = .ok (.iload_n 1, 1) := by decide +kernel
theorem dX8_trade_176 : decode cX8_trade 176 = .ok (.iaload, 1) := by decide +kernel
theorem dX8_trade_177 : decode cX8_trade 177 = .ok (.dup2, 1) := by decide +kernel
theorem dX8_trade_178 : decode cX8_trade 178 = .ok (.iaload, 1) := by decide +kernel
theorem dX8_trade_179 : decode cX8_trade 179 = .ok (.iload_n 3, 1) := by decide +kernel
theorem dX8_trade_180 : decode cX8_trade 180 = .ok (.iadd, 1) := by decide +kernel
theorem dX8_trade_181 : decode cX8_trade 181 = .ok (.iastore, 1) := by decide +kernel
theorem dX8_trade_182 : decode cX8_trade 182 = .ok (.aload_n 0, 1) := by decide +kernel
theorem dX8_trade_183 : decode cX8_trade 183 = .ok (.getfield 59, 3) := by decide +kernel
theorem dX8_trade_186 : decode cX8_trade 186 = .ok (.iload_n 1, 1) := by decide +kernel
theorem dX8_trade_187 : decode cX8_trade 187 = .ok (.iload_n 2, 1) := by decide +kernel
theorem dX8_trade_188 : decode cX8_trade 188 = .ok (.iastore, 1) := by decide +kernel
theorem dX8_trade_189 : decode cX8_trade 189 = .ok (.aload_n 0, 1) := by decide +kernel
theorem dX8_trade_190 : decode cX8_trade 190 = .ok (.getfield 81, 3) := by decide +kernel
theorem dX8_trade_193 : decode cX8_trade 193 = .ok (.iload_n 1, 1) := by decide +kernel
theorem dX8_trade_194 : decode cX8_trade 194 = .ok (.iaload, 1) := by decide +kernel
theorem dX8_trade_195 : decode cX8_trade 195 = .ok (.ireturn, 1) := by decide +kernel
theorem dX8_isSalted_0 : decode cX8_isSalted 0 = .ok (.iconst 0, 1) := by decide +kernel
theorem dX8_isSalted_1 : decode cX8_isSalted 1 = .ok (.istore_n 2, 1) := by decide +kernel
theorem dX8_isSalted_2 : decode cX8_isSalted 2 = .ok (.iconst 0, 1) := by decide +kernel
theorem dX8_isSalted_3 : decode cX8_isSalted 3 = .ok (.istore_n 3, 1) := by decide +kernel
theorem dX8_isSalted_4 : decode cX8_isSalted 4 = .ok (.iload_n 3, 1) := by decide +kernel
theorem dX8_isSalted_5 : decode cX8_isSalted 5 = .ok (.aload_n 0, 1) := by decide +kernel
theorem dX8_isSalted_6 : decode cX8_isSalted 6 = .ok (.getfield 215, 3) := by decide +kernel
theorem dX8_isSalted_9 : decode cX8_isSalted 9 = .ok (.if_icmp .ge 106, 3) := by decide +kernel
theorem dX8_isSalted_12 : decode cX8_isSalted 12 = .ok (.aload_n 0, 1) := by decide +kernel
theorem dX8_isSalted_13 : decode cX8_isSalted 13 = .ok (.getfield 105, 3) := by decide +kernel
theorem dX8_isSalted_16 : decode cX8_isSalted 16 = .ok (.iload_n 3, 1) := by decide +kernel
theorem dX8_isSalted_17 : decode cX8_isSalted 17 = .ok (.iaload, 1) := by decide +kernel
theorem dX8_isSalted_18 : decode cX8_isSalted 18 = .ok (.aload_n 0, 1) := by decide +kernel
theorem dX8_isSalted_19 : decode cX8_isSalted 19 = .ok (.getfield 81, 3) := by decide +kernel
theorem dX8_isSalted_22 : decode cX8_isSalted 22 = .ok (.iload_n 1, 1) := by decide +kernel
theorem dX8_isSalted_23 : decode cX8_isSalted 23 = .ok (.iaload, 1) := by decide +kernel
theorem dX8_isSalted_24 : decode cX8_isSalted 24 = .ok (.if_icmp .ne 40, 3) := by decide +kernel
theorem dX8_isSalted_27 : decode cX8_isSalted 27 = .ok (.aload_n 0, 1) := by decide +kernel
theorem dX8_isSalted_28 : decode cX8_isSalted 28 = .ok (.getfield 108, 3) := by decide +kernel
theorem dX8_isSalted_31 : decode cX8_isSalted 31 = .ok (.iload_n 3, 1) := by decide +kernel
theorem dX8_isSalted_32 : decode cX8_isSalted 32 = .ok (.iaload, 1) := by decide +kernel
theorem dX8_isSalted_33 : decode cX8_isSalted 33 = .ok (.aload_n 0, 1) := by decide +kernel
theorem dX8_isSalted_34 : decode cX8_isSalted 34 = .ok (.getfield 62, 3) := by decide +kernel
theorem dX8_isSalted_37 : decode cX8_isSalted 37 = .ok (.iload_n 1, 1) := by decide +kernel
theorem dX8_isSalted_38 : decode cX8_isSalted 38 = .ok (.iaload, 1) := by decide +kernel
theorem dX8_isSalted_39 : decode cX8_isSalted 39 = .ok (.aload_n 0, 1) := by decide +kernel
theorem dX8_isSalted_40 : decode cX8_isSalted 40 = .ok (.getfield 62, 3) := by decide +kernel
theorem dX8_isSalted_43 : decode cX8_isSalted 43 = .ok (.iload_n 1, 1) := by decide +kernel
theorem dX8_isSalted_44 : decode cX8_isSalted 44 = .ok (.iaload, 1) := by decide +kernel
theorem dX8_isSalted_45 : decode cX8_isSalted 45 = .ok (.aload_n 0, 1) := by decide +kernel
theorem dX8_isSalted_46 : decode cX8_isSalted 46 = .ok (.getfield 65, 3) := by decide +kernel
theorem dX8_isSalted_49 : decode cX8_isSalted 49 = .ok (.iload_n 1, 1) := by decide +kernel
theorem dX8_isSalted_50 : decode cX8_isSalted 50 = .ok (.iaload, 1) := by decide +kernel
theorem dX8_isSalted_51 : decode cX8_isSalted 51 = .ok (.iadd, 1) := by decide +kernel
theorem dX8_isSalted_52 : decode cX8_isSalted 52 = .ok (.iconst 1, 1) := by decide +kernel
theorem dX8_isSalted_53 : decode cX8_isSalted 53 = .ok (.isub, 1) := by decide +kernel
theorem dX8_isSalted_54 : decode cX8_isSalted 54 = .ok (.invokestatic 123, 3) := by decide +kernel
theorem dX8_isSalted_57 : decode cX8_isSalted 57 = .ok (.ifCond .eq 7, 3) := by decide +kernel
theorem dX8_isSalted_60 : decode cX8_isSalted 60 = .ok (.iconst 1, 1) := by decide +kernel
theorem dX8_isSalted_61 : decode cX8_isSalted 61 = .ok (.goto 4, 3) := by decide +kernel
theorem dX8_isSalted_64 : decode cX8_isSalted 64 = .ok (.iconst 0, 1) := by decide +kernel
theorem dX8_isSalted_65 : decode cX8_isSalted 65 = .ok (.istore 4, 2) := by decide +kernel
theorem dX8_isSalted_67 : decode cX8_isSalted 67 = .ok (.iload_n 2, 1) := by decide +kernel
theorem dX8_isSalted_68 : decode cX8_isSalted 68 = .ok (.ifCond .ne 35, 3) := by decide +kernel
theorem dX8_isSalted_71 : decode cX8_isSalted 71 = .ok (.iload 4, 2) := by decide +kernel
theorem dX8_isSalted_73 : decode cX8_isSalted 73 = .ok (.ifCond .eq 34, 3) := by decide +kernel
theorem dX8_isSalted_76 : decode cX8_isSalted 76 = .ok (.aload_n 0, 1) := by decide +kernel
theorem dX8_isSalted_77 : decode cX8_isSalted 77 = .ok (.getfield 111, 3) := by decide +kernel
theorem dX8_isSalted_80 : decode cX8_isSalted 80 = .ok (.iload_n 3, 1) := by decide +kernel
theorem dX8_isSalted_81 : decode cX8_isSalted 81 = .ok (.iaload, 1) := by decide +kernel
theorem dX8_isSalted_82 : decode cX8_isSalted 82 = .ok (.aload_n 0, 1) := by decide +kernel
theorem dX8_isSalted_83 : decode cX8_isSalted 83 = .ok (.getfield 90, 3) := by decide +kernel
theorem dX8_isSalted_86 : decode cX8_isSalted 86 = .ok (.iload_n 1, 1) := by decide +kernel
theorem dX8_isSalted_87 : decode cX8_isSalted 87 = .ok (.iaload, 1) := by decide +kernel
theorem dX8_isSalted_88 : decode cX8_isSalted 88 = .ok (.bipush 30, 2) := by decide +kernel
theorem dX8_isSalted_90 : decode cX8_isSalted 90 = .ok (.isub, 1) := by decide +kernel
theorem dX8_isSalted_91 : decode cX8_isSalted 91 = .ok (.aload_n 0, 1) := by decide +kernel
theorem dX8_isSalted_92 : decode cX8_isSalted 92 = .ok (.getfield 90, 3) := by decide +kernel
theorem dX8_isSalted_95 : decode cX8_isSalted 95 = .ok (.iload_n 1, 1) := by decide +kernel
theorem dX8_isSalted_96 : decode cX8_isSalted 96 = .ok (.iaload, 1) := by decide +kernel
theorem dX8_isSalted_97 : decode cX8_isSalted 97 = .ok (.invokestatic 123, 3) := by decide +kernel
theorem dX8_isSalted_100 : decode cX8_isSalted 100 = .ok (.ifCond .eq 7, 3) := by decide +kernel
theorem dX8_isSalted_103 : decode cX8_isSalted 103 = .ok (.iconst 1, 1) := by decide +kernel
theorem dX8_isSalted_104 : decode cX8_isSalted 104 = .ok (.goto 4, 3) := by decide +kernel
theorem dX8_isSalted_107 : decode cX8_isSalted 107 = .ok (.iconst 0, 1) := by decide +kernel
theorem dX8_isSalted_108 : decode cX8_isSalted 108 = .ok (.istore_n 2, 1) := by decide +kernel
theorem dX8_isSalted_109 : decode cX8_isSalted 109 = .ok (.iinc 3 1, 3) := by decide +kernel
theorem dX8_isSalted_112 : decode cX8_isSalted 112 = .ok (.goto (-108), 3) := by decide +kernel
theorem dX8_isSalted_115 : decode cX8_isSalted 115 = .ok (.iload_n 2, 1) := by decide +kernel
theorem dX8_isSalted_116 : decode cX8_isSalted 116 = .ok (.ireturn, 1) := by decide +kernel
theorem dX8_suit_0 : decode cX8_suit 0 = .ok (.aload_n 0, 1) := by decide +kernel
theorem dX8_suit_1 : decode cX8_suit 1 = .ok (.iload_n 1, 1) := by decide +kernel
theorem dX8_suit_2 : decode cX8_suit 2 = .ok (.invokevirtual 230, 3) := by decide +kernel
theorem dX8_suit_5 : decode cX8_suit 5 = .ok (.istore_n 2, 1) := by decide +kernel
theorem dX8_suit_6 : decode cX8_suit 6 = .ok (.aload_n 0, 1) := by decide +kernel
theorem dX8_suit_7 : decode cX8_suit 7 = .ok (.iload_n 2, 1) := by decide +kernel
theorem dX8_suit_8 : decode cX8_suit 8 = .ok (.ifCond .ne 7, 3) := by decide +kernel
theorem dX8_suit_11 : decode cX8_suit 11 = .ok (.iconst 1, 1) := by decide +kernel
theorem dX8_suit_12 : decode cX8_suit 12 = .ok (.goto 43, 3) := by decide +kernel
theorem dX8_suit_15 : decode cX8_suit 15 = .ok (.aload_n 0, 1) := by decide +kernel
theorem dX8_suit_16 : decode cX8_suit 16 = .ok (.getfield 90, 3) := by decide +kernel
theorem dX8_suit_19 : decode cX8_suit 19 = .ok (.iload_n 1, 1) := by decide +kernel
theorem dX8_suit_20 : decode cX8_suit 20 = .ok (.iaload, 1) := by decide +kernel
theorem dX8_suit_21 : decode cX8_suit 21 = .ok (.iconst (-1), 1) := by decide +kernel
theorem dX8_suit_22 : decode cX8_suit 22 = .ok (.if_icmp .eq 28, 3) := by decide +kernel
theorem dX8_suit_25 : decode cX8_suit 25 = .ok (.aload_n 0, 1) := by decide +kernel
theorem dX8_suit_26 : decode cX8_suit 26 = .ok (.getfield 78, 3) := by decide +kernel
theorem dX8_suit_29 : decode cX8_suit 29 = .ok (.iload_n 1, 1) := by decide +kernel
theorem dX8_suit_30 : decode cX8_suit 30 = .ok (.baload, 1) := by decide +kernel
theorem dX8_suit_31 : decode cX8_suit 31 = .ok (.ifCond .ne 19, 3) := by decide +kernel
theorem dX8_suit_34 : decode cX8_suit 34 = .ok (.aload_n 0, 1) := by decide +kernel
theorem dX8_suit_35 : decode cX8_suit 35 = .ok (.getfield 138, 3) := by decide +kernel
theorem dX8_suit_38 : decode cX8_suit 38 = .ok (.aload_n 0, 1) := by decide +kernel
theorem dX8_suit_39 : decode cX8_suit 39 = .ok (.getfield 90, 3) := by decide +kernel
theorem dX8_suit_42 : decode cX8_suit 42 = .ok (.iload_n 1, 1) := by decide +kernel
theorem dX8_suit_43 : decode cX8_suit 43 = .ok (.iaload, 1) := by decide +kernel
theorem dX8_suit_44 : decode cX8_suit 44 = .ok (.isub, 1) := by decide +kernel
theorem dX8_suit_45 : decode cX8_suit 45 = .ok (.bipush 30, 2) := by decide +kernel
theorem dX8_suit_47 : decode cX8_suit 47 = .ok (.if_icmp .le 7, 3) := by decide +kernel
theorem dX8_suit_50 : decode cX8_suit 50 = .ok (.iconst 2, 1) := by decide +kernel
theorem dX8_suit_51 : decode cX8_suit 51 = .ok (.goto 4, 3) := by decide +kernel
theorem dX8_suit_54 : decode cX8_suit 54 = .ok (.iconst 0, 1) := by decide +kernel
theorem dX8_suit_55 : decode cX8_suit 55 = .ok (.invokevirtual 145, 3) := by decide +kernel
theorem dX8_suit_58 : decode cX8_suit 58 = .ok (.ifCond .ne 5, 3) := by decide +kernel
theorem dX8_suit_61 : decode cX8_suit 61 = .ok (.iconst 0, 1) := by decide +kernel
theorem dX8_suit_62 : decode cX8_suit 62 = .ok (.ireturn, 1) := by decide +kernel
theorem dX8_suit_63 : decode cX8_suit 63 = .ok (.aload_n 0, 1) := by decide +kernel
theorem dX8_suit_64 : decode cX8_suit 64 = .ok (.getfield 78, 3) := by decide +kernel
theorem dX8_suit_67 : decode cX8_suit 67 = .ok (.iload_n 1, 1) := by decide +kernel
theorem dX8_suit_68 : decode cX8_suit 68 = .ok (.iconst 1, 1) := by decide +kernel
theorem dX8_suit_69 : decode cX8_suit 69 = .ok (.bastore, 1) := by decide +kernel
theorem dX8_suit_70 : decode cX8_suit 70 = .ok (.aload_n 0, 1) := by decide +kernel
theorem dX8_suit_71 : decode cX8_suit 71 = .ok (.iload_n 1, 1) := by decide +kernel
theorem dX8_suit_72 : decode cX8_suit 72 = .ok (.invokevirtual 233, 3) := by decide +kernel
theorem dX8_suit_75 : decode cX8_suit 75 = .ok (.ifCond .ne 5, 3) := by decide +kernel
theorem dX8_suit_78 : decode cX8_suit 78 = .ok (.iconst (-1), 1) := by decide +kernel
theorem dX8_suit_79 : decode cX8_suit 79 = .ok (.ireturn, 1) := by decide +kernel
theorem dX8_suit_80 : decode cX8_suit 80 = .ok (.aload_n 0, 1) := by decide +kernel
theorem dX8_suit_81 : decode cX8_suit 81 = .ok (.getfield 87, 3) := by decide +kernel
theorem dX8_suit_84 : decode cX8_suit 84 = .ok (.iload_n 1, 1) := by decide +kernel
theorem dX8_suit_85 : decode cX8_suit 85 = .ok (.iaload, 1) := by decide +kernel
theorem dX8_suit_86 : decode cX8_suit 86 = .ok (.aload_n 0, 1) := by decide +kernel
theorem dX8_suit_87 : decode cX8_suit 87 = .ok (.getfield 44, 3) := by decide +kernel
theorem dX8_suit_90 : decode cX8_suit 90 = .ok (.aload_n 0, 1) := by decide +kernel
theorem dX8_suit_91 : decode cX8_suit 91 = .ok (.getfield 81, 3) := by decide +kernel
theorem dX8_suit_94 : decode cX8_suit 94 = .ok (.iload_n 1, 1) := by decide +kernel
theorem dX8_suit_95 : decode cX8_suit 95 = .ok (.iaload, 1) := by decide +kernel
theorem dX8_suit_96 : decode cX8_suit 96 = .ok (.iaload, 1) := by decide +kernel
theorem dX8_suit_97 : decode cX8_suit 97 = .ok (.invokestatic 148, 3) := by decide +kernel
theorem dX8_suit_100 : decode cX8_suit 100 = .ok (.istore_n 3, 1) := by decide +kernel
theorem dX8_suit_101 : decode cX8_suit 101 = .ok (.aload_n 0, 1) := by decide +kernel
theorem dX8_suit_102 : decode cX8_suit 102 = .ok (.getfield 44, 3) := by decide +kernel
theorem dX8_suit_105 : decode cX8_suit 105 = .ok (.aload_n 0, 1) := by decide +kernel
theorem dX8_suit_106 : decode cX8_suit 106 = .ok (.getfield 81, 3) := by decide +kernel
theorem dX8_suit_109 : decode cX8_suit 109 = .ok (.iload_n 1, 1) := by decide +kernel
theorem dX8_suit_110 : decode cX8_suit 110 = .ok (.iaload, 1) := by decide +kernel
theorem dX8_suit_111 : decode cX8_suit 111 = .ok (.dup2, 1) := by decide +kernel
theorem dX8_suit_112 : decode cX8_suit 112 = .ok (.iaload, 1) := by decide +kernel
theorem dX8_suit_113 : decode cX8_suit 113 = .ok (.iload_n 3, 1) := by decide +kernel
theorem dX8_suit_114 : decode cX8_suit 114 = .ok (.isub, 1) := by decide +kernel
theorem dX8_suit_115 : decode cX8_suit 115 = .ok (.iastore, 1) := by decide +kernel
theorem dX8_suit_116 : decode cX8_suit 116 = .ok (.aload_n 0, 1) := by decide +kernel
theorem dX8_suit_117 : decode cX8_suit 117 = .ok (.getfield 44, 3) := by decide +kernel
theorem dX8_suit_120 : decode cX8_suit 120 = .ok (.aload_n 0, 1) := by decide +kernel
theorem dX8_suit_121 : decode cX8_suit 121 = .ok (.getfield 84, 3) := by decide +kernel
theorem dX8_suit_124 : decode cX8_suit 124 = .ok (.iload_n 1, 1) := by decide +kernel
theorem dX8_suit_125 : decode cX8_suit 125 = .ok (.iaload, 1) := by decide +kernel
theorem dX8_suit_126 : decode cX8_suit 126 = .ok (.dup2, 1) := by decide +kernel
theorem dX8_suit_127 : decode cX8_suit 127 = .ok (.iaload, 1) := by decide +kernel
theorem dX8_suit_128 : decode cX8_suit 128 = .ok (.iload_n 3, 1) := by decide +kernel
theorem dX8_suit_129 : decode cX8_suit 129 = .ok (.iadd, 1) := by decide +kernel
theorem dX8_suit_130 : decode cX8_suit 130 = .ok (.iastore, 1) := by decide +kernel
theorem dX8_suit_131 : decode cX8_suit 131 = .ok (.iload_n 3, 1) := by decide +kernel
theorem dX8_suit_132 : decode cX8_suit 132 = .ok (.ireturn, 1) := by decide +kernel
theorem dX8_rumour_0 : decode cX8_rumour 0 = .ok (.aload_n 0, 1) := by decide +kernel
theorem dX8_rumour_1 : decode cX8_rumour 1 = .ok (.iload_n 1, 1) := by decide +kernel
theorem dX8_rumour_2 : decode cX8_rumour 2 = .ok (.invokestatic 134, 3) := by decide +kernel
theorem dX8_rumour_5 : decode cX8_rumour 5 = .ok (.ifCond .ne 7, 3) := by decide +kernel
theorem dX8_rumour_8 : decode cX8_rumour 8 = .ok (.iconst 1, 1) := by decide +kernel
theorem dX8_rumour_9 : decode cX8_rumour 9 = .ok (.goto 18, 3) := by decide +kernel
theorem dX8_rumour_12 : decode cX8_rumour 12 = .ok (.iload_n 2, 1) := by decide +kernel
theorem dX8_rumour_13 : decode cX8_rumour 13 = .ok (.iconst 0, 1) := by decide +kernel
theorem dX8_rumour_14 : decode cX8_rumour 14 = .ok (.bipush 100, 2) := by decide +kernel
theorem dX8_rumour_16 : decode cX8_rumour 16 = .ok (.invokestatic 123, 3) := by decide +kernel
theorem dX8_rumour_19 : decode cX8_rumour 19 = .ok (.ifCond .eq 7, 3) := by decide +kernel
theorem dX8_rumour_22 : decode cX8_rumour 22 = .ok (.iconst 0, 1) := by decide +kernel
theorem dX8_rumour_23 : decode cX8_rumour 23 = .ok (.goto 4, 3) := by decide +kernel
theorem dX8_rumour_26 : decode cX8_rumour 26 = .ok (.iconst 2, 1) := by decide +kernel
theorem dX8_rumour_27 : decode cX8_rumour 27 = .ok (.invokevirtual 145, 3) := by decide +kernel
theorem dX8_rumour_30 : decode cX8_rumour 30 = .ok (.ifCond .ne 5, 3) := by decide +kernel
theorem dX8_rumour_33 : decode cX8_rumour 33 = .ok (.iconst 0, 1) := by decide +kernel
theorem dX8_rumour_34 : decode cX8_rumour 34 = .ok (.ireturn, 1) := by decide +kernel
theorem dX8_rumour_35 : decode cX8_rumour 35 = .ok (.aload_n 0, 1) := by decide +kernel
theorem dX8_rumour_36 : decode cX8_rumour 36 = .ok (.getfield 32, 3) := by decide +kernel
theorem dX8_rumour_39 : decode cX8_rumour 39 = .ok (.iload_n 1, 1) := by decide +kernel
theorem dX8_rumour_40 : decode cX8_rumour 40 = .ok (.iaload, 1) := by decide +kernel
theorem dX8_rumour_41 : decode cX8_rumour 41 = .ok (.istore_n 3, 1) := by decide +kernel
theorem dX8_rumour_42 : decode cX8_rumour 42 = .ok (.aload_n 0, 1) := by decide +kernel
theorem dX8_rumour_43 : decode cX8_rumour 43 = .ok (.getfield 32, 3) := by decide +kernel
theorem dX8_rumour_46 : decode cX8_rumour 46 = .ok (.iload_n 1, 1) := by decide +kernel
theorem dX8_rumour_47 : decode cX8_rumour 47 = .ok (.iload_n 2, 1) := by decide +kernel
theorem dX8_rumour_48 : decode cX8_rumour 48 = .ok (.iastore, 1) := by decide +kernel
theorem dX8_rumour_49 : decode cX8_rumour 49 = .ok (.iload_n 3, 1) := by decide +kernel
theorem dX8_rumour_50 : decode cX8_rumour 50 = .ok (.ireturn, 1) := by decide +kernel
theorem dX8_day_0 : decode cX8_day 0 = .ok (.aload_n 0, 1) := by decide +kernel
theorem dX8_day_1 : decode cX8_day 1 = .ok (.iconst 0, 1) := by decide +kernel
theorem dX8_day_2 : decode cX8_day 2 = .ok (.putfield 120, 3) := by decide +kernel
theorem dX8_day_5 : decode cX8_day 5 = .ok (.aload_n 0, 1) := by decide +kernel
theorem dX8_day_6 : decode cX8_day 6 = .ok (.getfield 138, 3) := by decide +kernel
theorem dX8_day_9 : decode cX8_day 9 = .ok (.ireturn, 1) := by decide +kernel
theorem dX8_holds_0 : decode cX8_holds 0 = .ok (.aload_n 0, 1) := by decide +kernel
theorem dX8_holds_1 : decode cX8_holds 1 = .ok (.iload_n 1, 1) := by decide +kernel
theorem dX8_holds_2 : decode cX8_holds 2 = .ok (.invokestatic 134, 3) := by decide +kernel
theorem dX8_holds_5 : decode cX8_holds 5 = .ok (.ifCond .eq 7, 3) := by decide +kernel
theorem dX8_holds_8 : decode cX8_holds 8 = .ok (.iconst 0, 1) := by decide +kernel
theorem dX8_holds_9 : decode cX8_holds 9 = .ok (.goto 4, 3) := by decide +kernel
theorem dX8_holds_12 : decode cX8_holds 12 = .ok (.iconst 1, 1) := by decide +kernel
theorem dX8_holds_13 : decode cX8_holds 13 = .ok (.invokevirtual 145, 3) := by decide +kernel
theorem dX8_holds_16 : decode cX8_holds 16 = .ok (.ifCond .eq 11, 3) := by decide +kernel
theorem dX8_holds_19 : decode cX8_holds 19 = .ok (.aload_n 0, 1) := by decide +kernel
theorem dX8_holds_20 : decode cX8_holds 20 = .ok (.iload_n 1, 1) := by decide +kernel
theorem dX8_holds_21 : decode cX8_holds 21 = .ok (.invokevirtual 172, 3) := by decide +kernel
theorem dX8_holds_24 : decode cX8_holds 24 = .ok (.goto 4, 3) := by decide +kernel
theorem dX8_holds_27 : decode cX8_holds 27 = .ok (.iconst 0, 1) := by decide +kernel
theorem dX8_holds_28 : decode cX8_holds 28 = .ok (.ireturn, 1) := by decide +kernel
theorem dX8_ofClaim_0 : decode cX8_ofClaim 0 = .ok (.aload_n 0, 1) := by decide +kernel
theorem dX8_ofClaim_1 : decode cX8_ofClaim 1 = .ok (.aload_n 0, 1) := by decide +kernel
theorem dX8_ofClaim_2 : decode cX8_ofClaim 2 = .ok (.iload_n 1, 1) := by decide +kernel
theorem dX8_ofClaim_3 : decode cX8_ofClaim 3 = .ok (.invokevirtual 230, 3) := by decide +kernel
theorem dX8_ofClaim_6 : decode cX8_ofClaim 6 = .ok (.ifCond .ne 7, 3) := by decide +kernel
theorem dX8_ofClaim_9 : decode cX8_ofClaim 9 = .ok (.iconst 1, 1) := by decide +kernel
theorem dX8_ofClaim_10 : decode cX8_ofClaim 10 = .ok (.goto 17, 3) := by decide +kernel
theorem dX8_ofClaim_13 : decode cX8_ofClaim 13 = .ok (.iload_n 2, 1) := by decide +kernel
theorem dX8_ofClaim_14 : decode cX8_ofClaim 14 = .ok (.iconst 0, 1) := by decide +kernel
theorem dX8_ofClaim_15 : decode cX8_ofClaim 15 = .ok (.iconst 5, 1) := by decide +kernel
theorem dX8_ofClaim_16 : decode cX8_ofClaim 16 = .ok (.invokestatic 123, 3) := by decide +kernel
theorem dX8_ofClaim_19 : decode cX8_ofClaim 19 = .ok (.ifCond .eq 7, 3) := by decide +kernel
theorem dX8_ofClaim_22 : decode cX8_ofClaim 22 = .ok (.iconst 0, 1) := by decide +kernel
theorem dX8_ofClaim_23 : decode cX8_ofClaim 23 = .ok (.goto 4, 3) := by decide +kernel
theorem dX8_ofClaim_26 : decode cX8_ofClaim 26 = .ok (.iconst 2, 1) := by decide +kernel
theorem dX8_ofClaim_27 : decode cX8_ofClaim 27 = .ok (.invokevirtual 145, 3) := by decide +kernel
theorem dX8_ofClaim_30 : decode cX8_ofClaim 30 = .ok (.ifCond .ne 5, 3) := by decide +kernel
theorem dX8_ofClaim_33 : decode cX8_ofClaim 33 = .ok (.iconst 0, 1) := by decide +kernel
theorem dX8_ofClaim_34 : decode cX8_ofClaim 34 = .ok (.ireturn, 1) := by decide +kernel
theorem dX8_ofClaim_35 : decode cX8_ofClaim 35 = .ok (.iload_n 2, 1) := by decide +kernel
theorem dX8_ofClaim_36 : decode cX8_ofClaim 36 = .ok (.ifCond .ne 12, 3) := by decide +kernel
theorem dX8_ofClaim_39 : decode cX8_ofClaim 39 = .ok (.aload_n 0, 1) := by decide +kernel
theorem dX8_ofClaim_40 : decode cX8_ofClaim 40 = .ok (.getfield 59, 3) := by decide +kernel
theorem dX8_ofClaim_43 : decode cX8_ofClaim 43 = .ok (.iload_n 1, 1) := by decide +kernel
theorem dX8_ofClaim_44 : decode cX8_ofClaim 44 = .ok (.iaload, 1) := by decide +kernel
theorem dX8_ofClaim_45 : decode cX8_ofClaim 45 = .ok (.goto 73, 3) := by decide +kernel
theorem dX8_ofClaim_48 : decode cX8_ofClaim 48 = .ok (.iload_n 2, 1) := by decide +kernel
theorem dX8_ofClaim_49 : decode cX8_ofClaim 49 = .ok (.iconst 1, 1) := by decide +kernel
theorem dX8_ofClaim_50 : decode cX8_ofClaim 50 = .ok (.if_icmp .ne 12, 3) := by decide +kernel
theorem dX8_ofClaim_53 : decode cX8_ofClaim 53 = .ok (.aload_n 0, 1) := by decide +kernel
theorem dX8_ofClaim_54 : decode cX8_ofClaim 54 = .ok (.getfield 62, 3) := by decide +kernel
theorem dX8_ofClaim_57 : decode cX8_ofClaim 57 = .ok (.iload_n 1, 1) := by decide +kernel
theorem dX8_ofClaim_58 : decode cX8_ofClaim 58 = .ok (.iaload, 1) := by decide +kernel
theorem dX8_ofClaim_59 : decode cX8_ofClaim 59 = .ok (.goto 59, 3) := by decide +kernel
theorem dX8_ofClaim_62 : decode cX8_ofClaim 62 = .ok (.iload_n 2, 1) := by decide +kernel
theorem dX8_ofClaim_63 : decode cX8_ofClaim 63 = .ok (.iconst 2, 1) := by decide +kernel
theorem dX8_ofClaim_64 : decode cX8_ofClaim 64 = .ok (.if_icmp .ne 12, 3) := by decide +kernel
theorem dX8_ofClaim_67 : decode cX8_ofClaim 67 = .ok (.aload_n 0, 1) := by decide +kernel
theorem dX8_ofClaim_68 : decode cX8_ofClaim 68 = .ok (.getfield 65, 3) := by decide +kernel
theorem dX8_ofClaim_71 : decode cX8_ofClaim 71 = .ok (.iload_n 1, 1) := by decide +kernel
theorem dX8_ofClaim_72 : decode cX8_ofClaim 72 = .ok (.iaload, 1) := by decide +kernel
theorem dX8_ofClaim_73 : decode cX8_ofClaim 73 = .ok (.goto 45, 3) := by decide +kernel
theorem dX8_ofClaim_76 : decode cX8_ofClaim 76 = .ok (.iload_n 2, 1) := by decide +kernel
theorem dX8_ofClaim_77 : decode cX8_ofClaim 77 = .ok (.iconst 3, 1) := by decide +kernel
theorem dX8_ofClaim_78 : decode cX8_ofClaim 78 = .ok (.if_icmp .ne 20, 3) := by decide +kernel
theorem dX8_ofClaim_81 : decode cX8_ofClaim 81 = .ok (.aload_n 0, 1) := by decide +kernel
theorem dX8_ofClaim_82 : decode cX8_ofClaim 82 = .ok (.getfield 68, 3) := by decide +kernel
theorem dX8_ofClaim_85 : decode cX8_ofClaim 85 = .ok (.iload_n 1, 1) := by decide +kernel
theorem dX8_ofClaim_86 : decode cX8_ofClaim 86 = .ok (.baload, 1) := by decide +kernel
theorem dX8_ofClaim_87 : decode cX8_ofClaim 87 = .ok (.ifCond .eq 7, 3) := by decide +kernel
theorem dX8_ofClaim_90 : decode cX8_ofClaim 90 = .ok (.iconst 1, 1) := by decide +kernel
theorem dX8_ofClaim_91 : decode cX8_ofClaim 91 = .ok (.goto 27, 3) := by decide +kernel
theorem dX8_ofClaim_94 : decode cX8_ofClaim 94 = .ok (.iconst 0, 1) := by decide +kernel
theorem dX8_ofClaim_95 : decode cX8_ofClaim 95 = .ok (.goto 23, 3) := by decide +kernel
theorem dX8_ofClaim_98 : decode cX8_ofClaim 98 = .ok (.iload_n 2, 1) := by decide +kernel
theorem dX8_ofClaim_99 : decode cX8_ofClaim 99 = .ok (.iconst 4, 1) := by decide +kernel
theorem dX8_ofClaim_100 : decode cX8_ofClaim 100 = .ok (.if_icmp .ne 12, 3) := by decide +kernel
theorem dX8_ofClaim_103 : decode cX8_ofClaim 103 = .ok (.aload_n 0, 1) := by decide +kernel
theorem dX8_ofClaim_104 : decode cX8_ofClaim 104 = .ok (.getfield 72, 3) := by decide +kernel
theorem dX8_ofClaim_107 : decode cX8_ofClaim 107 = .ok (.iload_n 1, 1) := by decide +kernel
theorem dX8_ofClaim_108 : decode cX8_ofClaim 108 = .ok (.iaload, 1) := by decide +kernel
theorem dX8_ofClaim_109 : decode cX8_ofClaim 109 = .ok (.goto 9, 3) := by decide +kernel
theorem dX8_ofClaim_112 : decode cX8_ofClaim 112 = .ok (.aload_n 0, 1) := by decide +kernel
theorem dX8_ofClaim_113 : decode cX8_ofClaim 113 = .ok (.getfield 75, 3) := by decide +kernel
theorem dX8_ofClaim_116 : decode cX8_ofClaim 116 = .ok (.iload_n 1, 1) := by decide +kernel
theorem dX8_ofClaim_117 : decode cX8_ofClaim 117 = .ok (.iaload, 1) := by decide +kernel
theorem dX8_ofClaim_118 : decode cX8_ofClaim 118 = .ok (.ireturn, 1) := by decide +kernel
theorem dX8_ofMiner_0 : decode cX8_ofMiner 0 = .ok (.aload_n 0, 1) := by decide +kernel
theorem dX8_ofMiner_1 : decode cX8_ofMiner 1 = .ok (.aload_n 0, 1) := by decide +kernel
theorem dX8_ofMiner_2 : decode cX8_ofMiner 2 = .ok (.iload_n 1, 1) := by decide +kernel
theorem dX8_ofMiner_3 : decode cX8_ofMiner 3 = .ok (.invokevirtual 176, 3) := by decide +kernel
theorem dX8_ofMiner_6 : decode cX8_ofMiner 6 = .ok (.ifCond .ne 7, 3) := by decide +kernel
theorem dX8_ofMiner_9 : decode cX8_ofMiner 9 = .ok (.iconst 1, 1) := by decide +kernel
theorem dX8_ofMiner_10 : decode cX8_ofMiner 10 = .ok (.goto 18, 3) := by decide +kernel
theorem dX8_ofMiner_13 : decode cX8_ofMiner 13 = .ok (.iload_n 2, 1) := by decide +kernel
theorem dX8_ofMiner_14 : decode cX8_ofMiner 14 = .ok (.iconst 0, 1) := by decide +kernel
theorem dX8_ofMiner_15 : decode cX8_ofMiner 15 = .ok (.bipush 7, 2) := by decide +kernel
theorem dX8_ofMiner_17 : decode cX8_ofMiner 17 = .ok (.invokestatic 123, 3) := by decide +kernel
theorem dX8_ofMiner_20 : decode cX8_ofMiner 20 = .ok (.ifCond .eq 7, 3) := by decide +kernel
theorem dX8_ofMiner_23 : decode cX8_ofMiner 23 = .ok (.iconst 0, 1) := by decide +kernel
theorem dX8_ofMiner_24 : decode cX8_ofMiner 24 = .ok (.goto 4, 3) := by decide +kernel
theorem dX8_ofMiner_27 : decode cX8_ofMiner 27 = .ok (.iconst 2, 1) := by decide +kernel
theorem dX8_ofMiner_28 : decode cX8_ofMiner 28 = .ok (.invokevirtual 145, 3) := by decide +kernel
theorem dX8_ofMiner_31 : decode cX8_ofMiner 31 = .ok (.ifCond .ne 5, 3) := by decide +kernel
theorem dX8_ofMiner_34 : decode cX8_ofMiner 34 = .ok (.iconst 0, 1) := by decide +kernel
theorem dX8_ofMiner_35 : decode cX8_ofMiner 35 = .ok (.ireturn, 1) := by decide +kernel
theorem dX8_ofMiner_36 : decode cX8_ofMiner 36 = .ok (.iload_n 2, 1) := by decide +kernel
theorem dX8_ofMiner_37 : decode cX8_ofMiner 37 = .ok (.tableswitch 91 0 6 #[43, 50, 57, 64, 71, 78, 84], 43) := by decide +kernel
theorem dX8_ofMiner_80 : decode cX8_ofMiner 80 = .ok (.aload_n 0, 1) := by decide +kernel
theorem dX8_ofMiner_81 : decode cX8_ofMiner 81 = .ok (.getfield 35, 3) := by decide +kernel
theorem dX8_ofMiner_84 : decode cX8_ofMiner 84 = .ok (.iload_n 1, 1) := by decide +kernel
theorem dX8_ofMiner_85 : decode cX8_ofMiner 85 = .ok (.iaload, 1) := by decide +kernel
theorem dX8_ofMiner_86 : decode cX8_ofMiner 86 = .ok (.ireturn, 1) := by decide +kernel
theorem dX8_ofMiner_87 : decode cX8_ofMiner 87 = .ok (.aload_n 0, 1) := by decide +kernel
theorem dX8_ofMiner_88 : decode cX8_ofMiner 88 = .ok (.getfield 38, 3) := by decide +kernel
theorem dX8_ofMiner_91 : decode cX8_ofMiner 91 = .ok (.iload_n 1, 1) := by decide +kernel
theorem dX8_ofMiner_92 : decode cX8_ofMiner 92 = .ok (.iaload, 1) := by decide +kernel
theorem dX8_ofMiner_93 : decode cX8_ofMiner 93 = .ok (.ireturn, 1) := by decide +kernel
theorem dX8_ofMiner_94 : decode cX8_ofMiner 94 = .ok (.aload_n 0, 1) := by decide +kernel
theorem dX8_ofMiner_95 : decode cX8_ofMiner 95 = .ok (.getfield 41, 3) := by decide +kernel
theorem dX8_ofMiner_98 : decode cX8_ofMiner 98 = .ok (.iload_n 1, 1) := by decide +kernel
theorem dX8_ofMiner_99 : decode cX8_ofMiner 99 = .ok (.iaload, 1) := by decide +kernel
theorem dX8_ofMiner_100 : decode cX8_ofMiner 100 = .ok (.ireturn, 1) := by decide +kernel
theorem dX8_ofMiner_101 : decode cX8_ofMiner 101 = .ok (.aload_n 0, 1) := by decide +kernel
theorem dX8_ofMiner_102 : decode cX8_ofMiner 102 = .ok (.getfield 44, 3) := by decide +kernel
theorem dX8_ofMiner_105 : decode cX8_ofMiner 105 = .ok (.iload_n 1, 1) := by decide +kernel
theorem dX8_ofMiner_106 : decode cX8_ofMiner 106 = .ok (.iaload, 1) := by decide +kernel
theorem dX8_ofMiner_107 : decode cX8_ofMiner 107 = .ok (.ireturn, 1) := by decide +kernel
theorem dX8_ofMiner_108 : decode cX8_ofMiner 108 = .ok (.aload_n 0, 1) := by decide +kernel
theorem dX8_ofMiner_109 : decode cX8_ofMiner 109 = .ok (.getfield 47, 3) := by decide +kernel
theorem dX8_ofMiner_112 : decode cX8_ofMiner 112 = .ok (.iload_n 1, 1) := by decide +kernel
theorem dX8_ofMiner_113 : decode cX8_ofMiner 113 = .ok (.iaload, 1) := by decide +kernel
theorem dX8_ofMiner_114 : decode cX8_ofMiner 114 = .ok (.ireturn, 1) := by decide +kernel
theorem dX8_ofMiner_115 : decode cX8_ofMiner 115 = .ok (.aload_n 0, 1) := by decide +kernel
theorem dX8_ofMiner_116 : decode cX8_ofMiner 116 = .ok (.iload_n 1, 1) := by decide +kernel
theorem dX8_ofMiner_117 : decode cX8_ofMiner 117 = .ok (.invokevirtual 195, 3) := by decide +kernel
theorem dX8_ofMiner_120 : decode cX8_ofMiner 120 = .ok (.ireturn, 1) := by decide +kernel
theorem dX8_ofMiner_121 : decode cX8_ofMiner 121 = .ok (.aload_n 0, 1) := by decide +kernel
theorem dX8_ofMiner_122 : decode cX8_ofMiner 122 = .ok (.getfield 50, 3) := by decide +kernel
theorem dX8_ofMiner_125 : decode cX8_ofMiner 125 = .ok (.iload_n 1, 1) := by decide +kernel
theorem dX8_ofMiner_126 : decode cX8_ofMiner 126 = .ok (.iaload, 1) := by decide +kernel
theorem dX8_ofMiner_127 : decode cX8_ofMiner 127 = .ok (.ireturn, 1) := by decide +kernel
theorem dX8_ofMiner_128 : decode cX8_ofMiner 128 = .ok (.aload_n 0, 1) := by decide +kernel
theorem dX8_ofMiner_129 : decode cX8_ofMiner 129 = .ok (.iload_n 1, 1) := by decide +kernel
theorem dX8_ofMiner_130 : decode cX8_ofMiner 130 = .ok (.invokevirtual 227, 3) := by decide +kernel
theorem dX8_ofMiner_133 : decode cX8_ofMiner 133 = .ok (.ireturn, 1) := by decide +kernel
theorem dX8_gets_0 : decode cX8_gets 0 = .ok (.aload_n 0, 1) := by decide +kernel
theorem dX8_gets_1 : decode cX8_gets 1 = .ok (.iload_n 1, 1) := by decide +kernel
theorem dX8_gets_2 : decode cX8_gets 2 = .ok (.iconst 0, 1) := by decide +kernel
theorem dX8_gets_3 : decode cX8_gets 3 = .ok (.aload_n 0, 1) := by decide +kernel
theorem dX8_gets_4 : decode cX8_gets 4 = .ok (.getfield 183, 3) := by decide +kernel
theorem dX8_gets_7 : decode cX8_gets 7 = .ok (.iconst 1, 1) := by decide +kernel
theorem dX8_gets_8 : decode cX8_gets 8 = .ok (.isub, 1) := by decide +kernel
theorem dX8_gets_9 : decode cX8_gets 9 = .ok (.invokestatic 123, 3) := by decide +kernel
theorem dX8_gets_12 : decode cX8_gets 12 = .ok (.ifCond .eq 7, 3) := by decide +kernel
theorem dX8_gets_15 : decode cX8_gets 15 = .ok (.iconst 0, 1) := by decide +kernel
theorem dX8_gets_16 : decode cX8_gets 16 = .ok (.goto 4, 3) := by decide +kernel
theorem dX8_gets_19 : decode cX8_gets 19 = .ok (.iconst 1, 1) := by decide +kernel
theorem dX8_gets_20 : decode cX8_gets 20 = .ok (.invokevirtual 145, 3) := by decide +kernel
theorem dX8_gets_23 : decode cX8_gets 23 = .ok (.ifCond .eq 11, 3) := by decide +kernel
theorem dX8_gets_26 : decode cX8_gets 26 = .ok (.aload_n 0, 1) := by decide +kernel
theorem dX8_gets_27 : decode cX8_gets 27 = .ok (.iload_n 1, 1) := by decide +kernel
theorem dX8_gets_28 : decode cX8_gets 28 = .ok (.invokevirtual 186, 3) := by decide +kernel
theorem dX8_gets_31 : decode cX8_gets 31 = .ok (.goto 4, 3) := by decide +kernel
theorem dX8_gets_34 : decode cX8_gets 34 = .ok (.iconst 0, 1) := by decide +kernel
theorem dX8_gets_35 : decode cX8_gets 35 = .ok (.ireturn, 1) := by decide +kernel
theorem dX8_inGround_0 : decode cX8_inGround 0 = .ok (.iconst 0, 1) := by decide +kernel
theorem dX8_inGround_1 : decode cX8_inGround 1 = .ok (.istore_n 1, 1) := by decide +kernel
theorem dX8_inGround_2 : decode cX8_inGround 2 = .ok (.iconst 0, 1) := by decide +kernel
theorem dX8_inGround_3 : decode cX8_inGround 3 = .ok (.istore_n 2, 1) := by decide +kernel
theorem dX8_inGround_4 : decode cX8_inGround 4 = .ok (.iload_n 2, 1) := by decide +kernel
theorem dX8_inGround_5 : decode cX8_inGround 5 = .ok (.bipush 40, 2) := by decide +kernel
theorem dX8_inGround_7 : decode cX8_inGround 7 = .ok (.if_icmp .ge 18, 3) := by decide +kernel
theorem dX8_inGround_10 : decode cX8_inGround 10 = .ok (.iload_n 1, 1) := by decide +kernel
theorem dX8_inGround_11 : decode cX8_inGround 11 = .ok (.aload_n 0, 1) := by decide +kernel
theorem dX8_inGround_12 : decode cX8_inGround 12 = .ok (.getfield 25, 3) := by decide +kernel
theorem dX8_inGround_15 : decode cX8_inGround 15 = .ok (.iload_n 2, 1) := by decide +kernel
theorem dX8_inGround_16 : decode cX8_inGround 16 = .ok (.iaload, 1) := by decide +kernel
theorem dX8_inGround_17 : decode cX8_inGround 17 = .ok (.iadd, 1) := by decide +kernel
theorem dX8_inGround_18 : decode cX8_inGround 18 = .ok (.istore_n 1, 1) := by decide +kernel
theorem dX8_inGround_19 : decode cX8_inGround 19 = .ok (.iinc 2 1, 3) := by decide +kernel
theorem dX8_inGround_22 : decode cX8_inGround 22 = .ok (.goto (-18), 3) := by decide +kernel
theorem dX8_inGround_25 : decode cX8_inGround 25 = .ok (.iload_n 1, 1) := by decide +kernel
theorem dX8_inGround_26 : decode cX8_inGround 26 = .ok (.ireturn, 1) := by decide +kernel
theorem dX8_withMiners_0 : decode cX8_withMiners 0 = .ok (.iconst 0, 1) := by decide +kernel
theorem dX8_withMiners_1 : decode cX8_withMiners 1 = .ok (.istore_n 1, 1) := by decide +kernel
theorem dX8_withMiners_2 : decode cX8_withMiners 2 = .ok (.iconst 0, 1) := by decide +kernel
theorem dX8_withMiners_3 : decode cX8_withMiners 3 = .ok (.istore_n 2, 1) := by decide +kernel
theorem dX8_withMiners_4 : decode cX8_withMiners 4 = .ok (.iload_n 2, 1) := by decide +kernel
theorem dX8_withMiners_5 : decode cX8_withMiners 5 = .ok (.aload_n 0, 1) := by decide +kernel
theorem dX8_withMiners_6 : decode cX8_withMiners 6 = .ok (.getfield 127, 3) := by decide +kernel
theorem dX8_withMiners_9 : decode cX8_withMiners 9 = .ok (.if_icmp .ge 18, 3) := by decide +kernel
theorem dX8_withMiners_12 : decode cX8_withMiners 12 = .ok (.iload_n 1, 1) := by decide +kernel
theorem dX8_withMiners_13 : decode cX8_withMiners 13 = .ok (.aload_n 0, 1) := by decide +kernel
theorem dX8_withMiners_14 : decode cX8_withMiners 14 = .ok (.getfield 35, 3) := by decide +kernel
theorem dX8_withMiners_17 : decode cX8_withMiners 17 = .ok (.iload_n 2, 1) := by decide +kernel
theorem dX8_withMiners_18 : decode cX8_withMiners 18 = .ok (.iaload, 1) := by decide +kernel
theorem dX8_withMiners_19 : decode cX8_withMiners 19 = .ok (.iadd, 1) := by decide +kernel
theorem dX8_withMiners_20 : decode cX8_withMiners 20 = .ok (.istore_n 1, 1) := by decide +kernel
theorem dX8_withMiners_21 : decode cX8_withMiners 21 = .ok (.iinc 2 1, 3) := by decide +kernel
theorem dX8_withMiners_24 : decode cX8_withMiners 24 = .ok (.goto (-20), 3) := by decide +kernel
theorem dX8_withMiners_27 : decode cX8_withMiners 27 = .ok (.iload_n 1, 1) := by decide +kernel
theorem dX8_withMiners_28 : decode cX8_withMiners 28 = .ok (.ireturn, 1) := by decide +kernel
theorem dX8_gold_0 : decode cX8_gold 0 = .ok (.aload_n 0, 1) := by decide +kernel
theorem dX8_gold_1 : decode cX8_gold 1 = .ok (.iload_n 1, 1) := by decide +kernel
theorem dX8_gold_2 : decode cX8_gold 2 = .ok (.iconst 0, 1) := by decide +kernel
theorem dX8_gold_3 : decode cX8_gold 3 = .ok (.iconst 4, 1) := by decide +kernel
theorem dX8_gold_4 : decode cX8_gold 4 = .ok (.invokestatic 123, 3) := by decide +kernel
theorem dX8_gold_7 : decode cX8_gold 7 = .ok (.ifCond .eq 7, 3) := by decide +kernel
theorem dX8_gold_10 : decode cX8_gold 10 = .ok (.iconst 0, 1) := by decide +kernel
theorem dX8_gold_11 : decode cX8_gold 11 = .ok (.goto 4, 3) := by decide +kernel
theorem dX8_gold_14 : decode cX8_gold 14 = .ok (.iconst 1, 1) := by decide +kernel
theorem dX8_gold_15 : decode cX8_gold 15 = .ok (.invokevirtual 145, 3) := by decide +kernel
theorem dX8_gold_18 : decode cX8_gold 18 = .ok (.ifCond .ne 5, 3) := by decide +kernel
theorem dX8_gold_21 : decode cX8_gold 21 = .ok (.iconst 0, 1) := by decide +kernel
theorem dX8_gold_22 : decode cX8_gold 22 = .ok (.ireturn, 1) := by decide +kernel
theorem dX8_gold_23 : decode cX8_gold 23 = .ok (.iload_n 1, 1) := by decide +kernel
theorem dX8_gold_24 : decode cX8_gold 24 = .ok (.ifCond .ne 10, 3) := by decide +kernel
theorem dX8_gold_27 : decode cX8_gold 27 = .ok (.aload_n 0, 1) := by decide +kernel
theorem dX8_gold_28 : decode cX8_gold 28 = .ok (.invokevirtual 236, 3) := by decide +kernel
theorem dX8_gold_31 : decode cX8_gold 31 = .ok (.goto 58, 3) := by decide +kernel
theorem dX8_gold_34 : decode cX8_gold 34 = .ok (.iload_n 1, 1) := by decide +kernel
theorem dX8_gold_35 : decode cX8_gold 35 = .ok (.iconst 1, 1) := by decide +kernel
theorem dX8_gold_36 : decode cX8_gold 36 = .ok (.if_icmp .ne 10, 3) := by decide +kernel
theorem dX8_gold_39 : decode cX8_gold 39 = .ok (.aload_n 0, 1) := by decide +kernel
theorem dX8_gold_40 : decode cX8_gold 40 = .ok (.getfield 208, 3) := by decide +kernel
theorem dX8_gold_43 : decode cX8_gold 43 = .ok (.goto 46, 3) := by decide +kernel
theorem dX8_gold_46 : decode cX8_gold 46 = .ok (.iload_n 1, 1) := by decide +kernel
theorem dX8_gold_47 : decode cX8_gold 47 = .ok (.iconst 2, 1) := by decide +kernel
theorem dX8_gold_48 : decode cX8_gold 48 = .ok (.if_icmp .ne 10, 3) := by decide +kernel
theorem dX8_gold_51 : decode cX8_gold 51 = .ok (.aload_n 0, 1) := by decide +kernel
theorem dX8_gold_52 : decode cX8_gold 52 = .ok (.invokevirtual 239, 3) := by decide +kernel
theorem dX8_gold_55 : decode cX8_gold 55 = .ok (.goto 34, 3) := by decide +kernel
theorem dX8_gold_58 : decode cX8_gold 58 = .ok (.iload_n 1, 1) := by decide +kernel
theorem dX8_gold_59 : decode cX8_gold 59 = .ok (.iconst 3, 1) := by decide +kernel
theorem dX8_gold_60 : decode cX8_gold 60 = .ok (.if_icmp .ne 10, 3) := by decide +kernel
theorem dX8_gold_63 : decode cX8_gold 63 = .ok (.aload_n 0, 1) := by decide +kernel
theorem dX8_gold_64 : decode cX8_gold 64 = .ok (.getfield 219, 3) := by decide +kernel
theorem dX8_gold_67 : decode cX8_gold 67 = .ok (.goto 22, 3) := by decide +kernel
theorem dX8_gold_70 : decode cX8_gold 70 = .ok (.aload_n 0, 1) := by decide +kernel
theorem dX8_gold_71 : decode cX8_gold 71 = .ok (.invokevirtual 236, 3) := by decide +kernel
theorem dX8_gold_74 : decode cX8_gold 74 = .ok (.aload_n 0, 1) := by decide +kernel
theorem dX8_gold_75 : decode cX8_gold 75 = .ok (.getfield 208, 3) := by decide +kernel
theorem dX8_gold_78 : decode cX8_gold 78 = .ok (.iadd, 1) := by decide +kernel
theorem dX8_gold_79 : decode cX8_gold 79 = .ok (.aload_n 0, 1) := by decide +kernel
theorem dX8_gold_80 : decode cX8_gold 80 = .ok (.invokevirtual 239, 3) := by decide +kernel
theorem dX8_gold_83 : decode cX8_gold 83 = .ok (.iadd, 1) := by decide +kernel
theorem dX8_gold_84 : decode cX8_gold 84 = .ok (.aload_n 0, 1) := by decide +kernel
theorem dX8_gold_85 : decode cX8_gold 85 = .ok (.getfield 219, 3) := by decide +kernel
theorem dX8_gold_88 : decode cX8_gold 88 = .ok (.iadd, 1) := by decide +kernel
theorem dX8_gold_89 : decode cX8_gold 89 = .ok (.ireturn, 1) := by decide +kernel
theorem dX8_camp_0 : decode cX8_camp 0 = .ok (.aload_n 0, 1) := by decide +kernel
theorem dX8_camp_1 : decode cX8_camp 1 = .ok (.iload_n 1, 1) := by decide +kernel
theorem dX8_camp_2 : decode cX8_camp 2 = .ok (.iconst 0, 1) := by decide +kernel
theorem dX8_camp_3 : decode cX8_camp 3 = .ok (.iconst 5, 1) := by decide +kernel
theorem dX8_camp_4 : decode cX8_camp 4 = .ok (.invokestatic 123, 3) := by decide +kernel
theorem dX8_camp_7 : decode cX8_camp 7 = .ok (.ifCond .eq 7, 3) := by decide +kernel
theorem dX8_camp_10 : decode cX8_camp 10 = .ok (.iconst 0, 1) := by decide +kernel
theorem dX8_camp_11 : decode cX8_camp 11 = .ok (.goto 4, 3) := by decide +kernel
theorem dX8_camp_14 : decode cX8_camp 14 = .ok (.iconst 1, 1) := by decide +kernel
theorem dX8_camp_15 : decode cX8_camp 15 = .ok (.invokevirtual 145, 3) := by decide +kernel
theorem dX8_camp_18 : decode cX8_camp 18 = .ok (.ifCond .ne 5, 3) := by decide +kernel
theorem dX8_camp_21 : decode cX8_camp 21 = .ok (.iconst 0, 1) := by decide +kernel
theorem dX8_camp_22 : decode cX8_camp 22 = .ok (.ireturn, 1) := by decide +kernel
theorem dX8_camp_23 : decode cX8_camp 23 = .ok (.iload_n 1, 1) := by decide +kernel
theorem dX8_camp_24 : decode cX8_camp 24 = .ok (.ifCond .ne 10, 3) := by decide +kernel
theorem dX8_camp_27 : decode cX8_camp 27 = .ok (.aload_n 0, 1) := by decide +kernel
theorem dX8_camp_28 : decode cX8_camp 28 = .ok (.getfield 13, 3) := by decide +kernel
theorem dX8_camp_31 : decode cX8_camp 31 = .ok (.goto 55, 3) := by decide +kernel
theorem dX8_camp_34 : decode cX8_camp 34 = .ok (.iload_n 1, 1) := by decide +kernel
theorem dX8_camp_35 : decode cX8_camp 35 = .ok (.iconst 1, 1) := by decide +kernel
theorem dX8_camp_36 : decode cX8_camp 36 = .ok (.if_icmp .ne 10, 3) := by decide +kernel
theorem dX8_camp_39 : decode cX8_camp 39 = .ok (.aload_n 0, 1) := by decide +kernel
theorem dX8_camp_40 : decode cX8_camp 40 = .ok (.getfield 16, 3) := by decide +kernel
theorem dX8_camp_43 : decode cX8_camp 43 = .ok (.goto 43, 3) := by decide +kernel
theorem dX8_camp_46 : decode cX8_camp 46 = .ok (.iload_n 1, 1) := by decide +kernel
theorem dX8_camp_47 : decode cX8_camp 47 = .ok (.iconst 2, 1) := by decide +kernel
theorem dX8_camp_48 : decode cX8_camp 48 = .ok (.if_icmp .ne 10, 3) := by decide +kernel
theorem dX8_camp_51 : decode cX8_camp 51 = .ok (.aload_n 0, 1) := by decide +kernel
theorem dX8_camp_52 : decode cX8_camp 52 = .ok (.getfield 22, 3) := by decide +kernel
theorem dX8_camp_55 : decode cX8_camp 55 = .ok (.goto 31, 3) := by decide +kernel
theorem dX8_camp_58 : decode cX8_camp 58 = .ok (.iload_n 1, 1) := by decide +kernel
theorem dX8_camp_59 : decode cX8_camp 59 = .ok (.iconst 3, 1) := by decide +kernel
theorem dX8_camp_60 : decode cX8_camp 60 = .ok (.if_icmp .ne 10, 3) := by decide +kernel
theorem dX8_camp_63 : decode cX8_camp 63 = .ok (.aload_n 0, 1) := by decide +kernel
theorem dX8_camp_64 : decode cX8_camp 64 = .ok (.invokevirtual 224, 3) := by decide +kernel
theorem dX8_camp_67 : decode cX8_camp 67 = .ok (.goto 19, 3) := by decide +kernel
theorem dX8_camp_70 : decode cX8_camp 70 = .ok (.iload_n 1, 1) := by decide +kernel
theorem dX8_camp_71 : decode cX8_camp 71 = .ok (.iconst 4, 1) := by decide +kernel
theorem dX8_camp_72 : decode cX8_camp 72 = .ok (.if_icmp .ne 10, 3) := by decide +kernel
theorem dX8_camp_75 : decode cX8_camp 75 = .ok (.aload_n 0, 1) := by decide +kernel
theorem dX8_camp_76 : decode cX8_camp 76 = .ok (.getfield 152, 3) := by decide +kernel
theorem dX8_camp_79 : decode cX8_camp 79 = .ok (.goto 7, 3) := by decide +kernel
theorem dX8_camp_82 : decode cX8_camp 82 = .ok (.aload_n 0, 1) := by decide +kernel
theorem dX8_camp_83 : decode cX8_camp 83 = .ok (.invokevirtual 168, 3) := by decide +kernel
theorem dX8_camp_86 : decode cX8_camp 86 = .ok (.ireturn, 1) := by decide +kernel
theorem dX8_belief_0 : decode cX8_belief 0 = .ok (.aload_n 0, 1) := by decide +kernel
theorem dX8_belief_1 : decode cX8_belief 1 = .ok (.iload_n 1, 1) := by decide +kernel
theorem dX8_belief_2 : decode cX8_belief 2 = .ok (.invokestatic 134, 3) := by decide +kernel
theorem dX8_belief_5 : decode cX8_belief 5 = .ok (.ifCond .eq 7, 3) := by decide +kernel
theorem dX8_belief_8 : decode cX8_belief 8 = .ok (.iconst 0, 1) := by decide +kernel
theorem dX8_belief_9 : decode cX8_belief 9 = .ok (.goto 4, 3) := by decide +kernel
theorem dX8_belief_12 : decode cX8_belief 12 = .ok (.iconst 1, 1) := by decide +kernel
theorem dX8_belief_13 : decode cX8_belief 13 = .ok (.invokevirtual 145, 3) := by decide +kernel
theorem dX8_belief_16 : decode cX8_belief 16 = .ok (.ifCond .eq 12, 3) := by decide +kernel
theorem dX8_belief_19 : decode cX8_belief 19 = .ok (.aload_n 0, 1) := by decide +kernel
theorem dX8_belief_20 : decode cX8_belief 20 = .ok (.getfield 32, 3) := by decide +kernel
theorem dX8_belief_23 : decode cX8_belief 23 = .ok (.iload_n 1, 1) := by decide +kernel
theorem dX8_belief_24 : decode cX8_belief 24 = .ok (.iaload, 1) := by decide +kernel
theorem dX8_belief_25 : decode cX8_belief 25 = .ok (.goto 4, 3) := by decide +kernel
theorem dX8_belief_28 : decode cX8_belief 28 = .ok (.iconst 0, 1) := by decide +kernel
theorem dX8_belief_29 : decode cX8_belief 29 = .ok (.ireturn, 1) := by decide +kernel
theorem dX8_orders_0 : decode cX8_orders 0 = .ok (.iconst 1, 1) := by decide +kernel
theorem dX8_orders_1 : decode cX8_orders 1 = .ok (.istore_n 1, 1) := by decide +kernel
theorem dX8_orders_2 : decode cX8_orders 2 = .ok (.iconst 2, 1) := by decide +kernel
theorem dX8_orders_3 : decode cX8_orders 3 = .ok (.istore_n 2, 1) := by decide +kernel
theorem dX8_orders_4 : decode cX8_orders 4 = .ok (.iload_n 2, 1) := by decide +kernel
theorem dX8_orders_5 : decode cX8_orders 5 = .ok (.iload_n 0, 1) := by decide +kernel
theorem dX8_orders_6 : decode cX8_orders 6 = .ok (.if_icmp .gt 13, 3) := by decide +kernel
theorem dX8_orders_9 : decode cX8_orders 9 = .ok (.iload_n 1, 1) := by decide +kernel
theorem dX8_orders_10 : decode cX8_orders 10 = .ok (.iload_n 2, 1) := by decide +kernel
theorem dX8_orders_11 : decode cX8_orders 11 = .ok (.imul, 1) := by decide +kernel
theorem dX8_orders_12 : decode cX8_orders 12 = .ok (.istore_n 1, 1) := by decide +kernel
theorem dX8_orders_13 : decode cX8_orders 13 = .ok (.iinc 2 1, 3) := by decide +kernel
theorem dX8_orders_16 : decode cX8_orders 16 = .ok (.goto (-12), 3) := by decide +kernel
theorem dX8_orders_19 : decode cX8_orders 19 = .ok (.iload_n 1, 1) := by decide +kernel
theorem dX8_orders_20 : decode cX8_orders 20 = .ok (.ireturn, 1) := by decide +kernel
theorem dX8_laysOrder_0 : decode cX8_laysOrder 0 = .ok (.iload_n 2, 1) := by decide +kernel
theorem dX8_laysOrder_1 : decode cX8_laysOrder 1 = .ok (.istore_n 3, 1) := by decide +kernel
theorem dX8_laysOrder_2 : decode cX8_laysOrder 2 = .ok (.iconst 0, 1) := by decide +kernel
theorem dX8_laysOrder_3 : decode cX8_laysOrder 3 = .ok (.istore 4, 2) := by decide +kernel
theorem dX8_laysOrder_5 : decode cX8_laysOrder 5 = .ok (.iconst 0, 1) := by decide +kernel
theorem dX8_laysOrder_6 : decode cX8_laysOrder 6 = .ok (.istore 5, 2) := by decide +kernel
theorem dX8_laysOrder_8 : decode cX8_laysOrder 8 = .ok (.iload 5, 2) := by decide +kernel
theorem dX8_laysOrder_10 : decode cX8_laysOrder 10 = .ok (.iload_n 1, 1) := by decide +kernel
theorem dX8_laysOrder_11 : decode cX8_laysOrder 11 = .ok (.if_icmp .ge 95, 3) := by decide +kernel
theorem dX8_laysOrder_14 : decode cX8_laysOrder 14 = .ok (.iload_n 1, 1) := by decide +kernel
theorem dX8_laysOrder_15 : decode cX8_laysOrder 15 = .ok (.iconst 1, 1) := by decide +kernel
theorem dX8_laysOrder_16 : decode cX8_laysOrder 16 = .ok (.isub, 1) := by decide +kernel
theorem dX8_laysOrder_17 : decode cX8_laysOrder 17 = .ok (.iload 5, 2) := by decide +kernel
theorem dX8_laysOrder_19 : decode cX8_laysOrder 19 = .ok (.isub, 1) := by decide +kernel
theorem dX8_laysOrder_20 : decode cX8_laysOrder 20 = .ok (.invokestatic 242, 3) := by decide +kernel
theorem dX8_laysOrder_23 : decode cX8_laysOrder 23 = .ok (.istore 6, 2) := by decide +kernel
theorem dX8_laysOrder_25 : decode cX8_laysOrder 25 = .ok (.iload_n 3, 1) := by decide +kernel
theorem dX8_laysOrder_26 : decode cX8_laysOrder 26 = .ok (.iload 6, 2) := by decide +kernel
theorem dX8_laysOrder_28 : decode cX8_laysOrder 28 = .ok (.idiv, 1) := by decide +kernel
theorem dX8_laysOrder_29 : decode cX8_laysOrder 29 = .ok (.istore 7, 2) := by decide +kernel
theorem dX8_laysOrder_31 : decode cX8_laysOrder 31 = .ok (.iload_n 3, 1) := by decide +kernel
theorem dX8_laysOrder_32 : decode cX8_laysOrder 32 = .ok (.iload 6, 2) := by decide +kernel
theorem dX8_laysOrder_34 : decode cX8_laysOrder 34 = .ok (.irem, 1) := by decide +kernel
theorem dX8_laysOrder_35 : decode cX8_laysOrder 35 = .ok (.istore_n 3, 1) := by decide +kernel
theorem dX8_laysOrder_36 : decode cX8_laysOrder 36 = .ok (.iconst 0, 1) := by decide +kernel
theorem dX8_laysOrder_37 : decode cX8_laysOrder 37 = .ok (.istore 8, 2) := by decide +kernel
theorem dX8_laysOrder_39 : decode cX8_laysOrder 39 = .ok (.iload 4, 2) := by decide +kernel
theorem dX8_laysOrder_41 : decode cX8_laysOrder 41 = .ok (.iload 8, 2) := by decide +kernel
theorem dX8_laysOrder_43 : decode cX8_laysOrder 43 = .ok (.ishr, 1) := by decide +kernel
theorem dX8_laysOrder_44 : decode cX8_laysOrder 44 = .ok (.iconst 1, 1) := by decide +kernel
theorem dX8_laysOrder_45 : decode cX8_laysOrder 45 = .ok (.iand, 1) := by decide +kernel
theorem dX8_laysOrder_46 : decode cX8_laysOrder 46 = .ok (.iconst 1, 1) := by decide +kernel
theorem dX8_laysOrder_47 : decode cX8_laysOrder 47 = .ok (.if_icmp .eq 8, 3) := by decide +kernel
theorem dX8_laysOrder_50 : decode cX8_laysOrder 50 = .ok (.iload 7, 2) := by decide +kernel
theorem dX8_laysOrder_52 : decode cX8_laysOrder 52 = .ok (.ifCond .le 30, 3) := by decide +kernel
theorem dX8_laysOrder_55 : decode cX8_laysOrder 55 = .ok (.iload 7, 2) := by decide +kernel
theorem dX8_laysOrder_57 : decode cX8_laysOrder 57 = .ok (.iload 4, 2) := by decide +kernel
theorem dX8_laysOrder_59 : decode cX8_laysOrder 59 = .ok (.iload 8, 2) := by decide +kernel
theorem dX8_laysOrder_61 : decode cX8_laysOrder 61 = .ok (.ishr, 1) := by decide +kernel
theorem dX8_laysOrder_62 : decode cX8_laysOrder 62 = .ok (.iconst 1, 1) := by decide +kernel
theorem dX8_laysOrder_63 : decode cX8_laysOrder 63 = .ok (.iand, 1) := by decide +kernel
theorem dX8_laysOrder_64 : decode cX8_laysOrder 64 = .ok (.iconst 1, 1) := by decide +kernel
theorem dX8_laysOrder_65 : decode cX8_laysOrder 65 = .ok (.if_icmp .ne 7, 3) := by decide +kernel
theorem dX8_laysOrder_68 : decode cX8_laysOrder 68 = .ok (.iconst 0, 1) := by decide +kernel
theorem dX8_laysOrder_69 : decode cX8_laysOrder 69 = .ok (.goto 4, 3) := by decide +kernel
theorem dX8_laysOrder_72 : decode cX8_laysOrder 72 = .ok (.iconst 1, 1) := by decide +kernel
theorem dX8_laysOrder_73 : decode cX8_laysOrder 73 = .ok (.isub, 1) := by decide +kernel
theorem dX8_laysOrder_74 : decode cX8_laysOrder 74 = .ok (.istore 7, 2) := by decide +kernel
theorem dX8_laysOrder_76 : decode cX8_laysOrder 76 = .ok (.iinc 8 1, 3) := by decide +kernel
theorem dX8_laysOrder_79 : decode cX8_laysOrder 79 = .ok (.goto (-40), 3) := by decide +kernel
theorem dX8_laysOrder_82 : decode cX8_laysOrder 82 = .ok (.aload_n 0, 1) := by decide +kernel
theorem dX8_laysOrder_83 : decode cX8_laysOrder 83 = .ok (.getfield 114, 3) := by decide +kernel
theorem dX8_laysOrder_86 : decode cX8_laysOrder 86 = .ok (.iload 5, 2) := by decide +kernel
theorem dX8_laysOrder_88 : decode cX8_laysOrder 88 = .ok (.iload 8, 2) := by decide +kernel
theorem dX8_laysOrder_90 : decode cX8_laysOrder 90 = .ok (.iastore, 1) := by decide +kernel
theorem dX8_laysOrder_91 : decode cX8_laysOrder 91 = .ok (.iload 4, 2) := by decide +kernel
theorem dX8_laysOrder_93 : decode cX8_laysOrder 93 = .ok (.iconst 1, 1) := by decide +kernel
theorem dX8_laysOrder_94 : decode cX8_laysOrder 94 = .ok (.iload 8, 2) := by decide +kernel
theorem dX8_laysOrder_96 : decode cX8_laysOrder 96 = .ok (.ishl, 1) := by decide +kernel
theorem dX8_laysOrder_97 : decode cX8_laysOrder 97 = .ok (.ior, 1) := by decide +kernel
theorem dX8_laysOrder_98 : decode cX8_laysOrder 98 = .ok (.istore 4, 2) := by decide +kernel
theorem dX8_laysOrder_100 : decode cX8_laysOrder 100 = .ok (.iinc 5 1, 3) := by decide +kernel
theorem dX8_laysOrder_103 : decode cX8_laysOrder 103 = .ok (.goto (-95), 3) := by decide +kernel
theorem dX8_laysOrder_106 : decode cX8_laysOrder 106 = .ok (.return_, 1) := by decide +kernel
theorem dX8_digs_0 : decode cX8_digs 0 = .ok (.aload_n 0, 1) := by decide +kernel
theorem dX8_digs_1 : decode cX8_digs 1 = .ok (.getfield 65, 3) := by decide +kernel
theorem dX8_digs_4 : decode cX8_digs 4 = .ok (.iload_n 1, 1) := by decide +kernel
theorem dX8_digs_5 : decode cX8_digs 5 = .ok (.iaload, 1) := by decide +kernel
theorem dX8_digs_6 : decode cX8_digs 6 = .ok (.istore_n 3, 1) := by decide +kernel
theorem dX8_digs_7 : decode cX8_digs 7 = .ok (.iconst 0, 1) := by decide +kernel
theorem dX8_digs_8 : decode cX8_digs 8 = .ok (.istore 4, 2) := by decide +kernel
theorem dX8_digs_10 : decode cX8_digs 10 = .ok (.iload 4, 2) := by decide +kernel
theorem dX8_digs_12 : decode cX8_digs 12 = .ok (.iload_n 3, 1) := by decide +kernel
theorem dX8_digs_13 : decode cX8_digs 13 = .ok (.if_icmp .ge 30, 3) := by decide +kernel
theorem dX8_digs_16 : decode cX8_digs 16 = .ok (.aload_n 0, 1) := by decide +kernel
theorem dX8_digs_17 : decode cX8_digs 17 = .ok (.getfield 117, 3) := by decide +kernel
theorem dX8_digs_20 : decode cX8_digs 20 = .ok (.iload 4, 2) := by decide +kernel
theorem dX8_digs_22 : decode cX8_digs 22 = .ok (.aload_n 0, 1) := by decide +kernel
theorem dX8_digs_23 : decode cX8_digs 23 = .ok (.getfield 25, 3) := by decide +kernel
theorem dX8_digs_26 : decode cX8_digs 26 = .ok (.aload_n 0, 1) := by decide +kernel
theorem dX8_digs_27 : decode cX8_digs 27 = .ok (.getfield 62, 3) := by decide +kernel
theorem dX8_digs_30 : decode cX8_digs 30 = .ok (.iload_n 1, 1) := by decide +kernel
theorem dX8_digs_31 : decode cX8_digs 31 = .ok (.iaload, 1) := by decide +kernel
theorem dX8_digs_32 : decode cX8_digs 32 = .ok (.iload 4, 2) := by decide +kernel
theorem dX8_digs_34 : decode cX8_digs 34 = .ok (.iadd, 1) := by decide +kernel
theorem dX8_digs_35 : decode cX8_digs 35 = .ok (.iaload, 1) := by decide +kernel
theorem dX8_digs_36 : decode cX8_digs 36 = .ok (.iastore, 1) := by decide +kernel
theorem dX8_digs_37 : decode cX8_digs 37 = .ok (.iinc 4 1, 3) := by decide +kernel
theorem dX8_digs_40 : decode cX8_digs 40 = .ok (.goto (-30), 3) := by decide +kernel
theorem dX8_digs_43 : decode cX8_digs 43 = .ok (.iconst 0, 1) := by decide +kernel
theorem dX8_digs_44 : decode cX8_digs 44 = .ok (.istore 4, 2) := by decide +kernel
theorem dX8_digs_46 : decode cX8_digs 46 = .ok (.iconst 0, 1) := by decide +kernel
theorem dX8_digs_47 : decode cX8_digs 47 = .ok (.istore 5, 2) := by decide +kernel
theorem dX8_digs_49 : decode cX8_digs 49 = .ok (.iload 5, 2) := by decide +kernel
theorem dX8_digs_51 : decode cX8_digs 51 = .ok (.iload_n 3, 1) := by decide +kernel
theorem dX8_digs_52 : decode cX8_digs 52 = .ok (.if_icmp .ge 102, 3) := by decide +kernel
theorem dX8_digs_55 : decode cX8_digs 55 = .ok (.aload_n 0, 1) := by decide +kernel
theorem dX8_digs_56 : decode cX8_digs 56 = .ok (.getfield 114, 3) := by decide +kernel
theorem dX8_digs_59 : decode cX8_digs 59 = .ok (.iload 5, 2) := by decide +kernel
theorem dX8_digs_61 : decode cX8_digs 61 = .ok (.iaload, 1) := by decide +kernel
theorem dX8_digs_62 : decode cX8_digs 62 = .ok (.istore 6, 2) := by decide +kernel
theorem dX8_digs_64 : decode cX8_digs 64 = .ok (.iload_n 2, 1) := by decide +kernel
theorem dX8_digs_65 : decode cX8_digs 65 = .ok (.aload_n 0, 1) := by decide +kernel
theorem dX8_digs_66 : decode cX8_digs 66 = .ok (.getfield 117, 3) := by decide +kernel
theorem dX8_digs_69 : decode cX8_digs 69 = .ok (.iload 6, 2) := by decide +kernel
theorem dX8_digs_71 : decode cX8_digs 71 = .ok (.iaload, 1) := by decide +kernel
theorem dX8_digs_72 : decode cX8_digs 72 = .ok (.invokestatic 201, 3) := by decide +kernel
theorem dX8_digs_75 : decode cX8_digs 75 = .ok (.istore 7, 2) := by decide +kernel
theorem dX8_digs_77 : decode cX8_digs 77 = .ok (.iload_n 2, 1) := by decide +kernel
theorem dX8_digs_78 : decode cX8_digs 78 = .ok (.aload_n 0, 1) := by decide +kernel
theorem dX8_digs_79 : decode cX8_digs 79 = .ok (.getfield 117, 3) := by decide +kernel
theorem dX8_digs_82 : decode cX8_digs 82 = .ok (.iload 6, 2) := by decide +kernel
theorem dX8_digs_84 : decode cX8_digs 84 = .ok (.iaload, 1) := by decide +kernel
theorem dX8_digs_85 : decode cX8_digs 85 = .ok (.aload_n 0, 1) := by decide +kernel
theorem dX8_digs_86 : decode cX8_digs 86 = .ok (.getfield 29, 3) := by decide +kernel
theorem dX8_digs_89 : decode cX8_digs 89 = .ok (.aload_n 0, 1) := by decide +kernel
theorem dX8_digs_90 : decode cX8_digs 90 = .ok (.getfield 62, 3) := by decide +kernel
theorem dX8_digs_93 : decode cX8_digs 93 = .ok (.iload_n 1, 1) := by decide +kernel
theorem dX8_digs_94 : decode cX8_digs 94 = .ok (.iaload, 1) := by decide +kernel
theorem dX8_digs_95 : decode cX8_digs 95 = .ok (.iload 6, 2) := by decide +kernel
theorem dX8_digs_97 : decode cX8_digs 97 = .ok (.iadd, 1) := by decide +kernel
theorem dX8_digs_98 : decode cX8_digs 98 = .ok (.iaload, 1) := by decide +kernel
theorem dX8_digs_99 : decode cX8_digs 99 = .ok (.invokestatic 204, 3) := by decide +kernel
theorem dX8_digs_102 : decode cX8_digs 102 = .ok (.istore 8, 2) := by decide +kernel
theorem dX8_digs_104 : decode cX8_digs 104 = .ok (.aload_n 0, 1) := by decide +kernel
theorem dX8_digs_105 : decode cX8_digs 105 = .ok (.getfield 117, 3) := by decide +kernel
theorem dX8_digs_108 : decode cX8_digs 108 = .ok (.iload 6, 2) := by decide +kernel
theorem dX8_digs_110 : decode cX8_digs 110 = .ok (.dup2, 1) := by decide +kernel
theorem dX8_digs_111 : decode cX8_digs 111 = .ok (.iaload, 1) := by decide +kernel
theorem dX8_digs_112 : decode cX8_digs 112 = .ok (.iload 7, 2) := by decide +kernel
theorem dX8_digs_114 : decode cX8_digs 114 = .ok (.isub, 1) := by decide +kernel
theorem dX8_digs_115 : decode cX8_digs 115 = .ok (.iastore, 1) := by decide +kernel
theorem dX8_digs_116 : decode cX8_digs 116 = .ok (.iload 6, 2) := by decide +kernel
theorem dX8_digs_118 : decode cX8_digs 118 = .ok (.iload_n 3, 1) := by decide +kernel
theorem dX8_digs_119 : decode cX8_digs 119 = .ok (.iconst 1, 1) := by decide +kernel
theorem dX8_digs_120 : decode cX8_digs 120 = .ok (.isub, 1) := by decide +kernel
theorem dX8_digs_121 : decode cX8_digs 121 = .ok (.if_icmp .ge 20, 3) := by decide +kernel
theorem dX8_digs_124 : decode cX8_digs 124 = .ok (.aload_n 0, 1) := by decide +kernel
theorem dX8_digs_125 : decode cX8_digs 125 = .ok (.getfield 117, 3) := by decide +kernel
theorem dX8_digs_128 : decode cX8_digs 128 = .ok (.iload 6, 2) := by decide +kernel
theorem dX8_digs_130 : decode cX8_digs 130 = .ok (.iconst 1, 1) := by decide +kernel
theorem dX8_digs_131 : decode cX8_digs 131 = .ok (.iadd, 1) := by decide +kernel
theorem dX8_digs_132 : decode cX8_digs 132 = .ok (.dup2, 1) := by decide +kernel
theorem dX8_digs_133 : decode cX8_digs 133 = .ok (.iaload, 1) := by decide +kernel
theorem dX8_digs_134 : decode cX8_digs 134 = .ok (.iload 7, 2) := by decide +kernel
theorem dX8_digs_136 : decode cX8_digs 136 = .ok (.iload 8, 2) := by decide +kernel
theorem dX8_digs_138 : decode cX8_digs 138 = .ok (.isub, 1) := by decide +kernel
theorem dX8_digs_139 : decode cX8_digs 139 = .ok (.iadd, 1) := by decide +kernel
theorem dX8_digs_140 : decode cX8_digs 140 = .ok (.iastore, 1) := by decide +kernel
theorem dX8_digs_141 : decode cX8_digs 141 = .ok (.iload 4, 2) := by decide +kernel
theorem dX8_digs_143 : decode cX8_digs 143 = .ok (.iload 8, 2) := by decide +kernel
theorem dX8_digs_145 : decode cX8_digs 145 = .ok (.iadd, 1) := by decide +kernel
theorem dX8_digs_146 : decode cX8_digs 146 = .ok (.istore 4, 2) := by decide +kernel
theorem dX8_digs_148 : decode cX8_digs 148 = .ok (.iinc 5 1, 3) := by decide +kernel
theorem dX8_digs_151 : decode cX8_digs 151 = .ok (.goto (-102), 3) := by decide +kernel
theorem dX8_digs_154 : decode cX8_digs 154 = .ok (.iload 4, 2) := by decide +kernel
theorem dX8_digs_156 : decode cX8_digs 156 = .ok (.ireturn, 1) := by decide +kernel
theorem dX8_bestOrder_0 : decode cX8_bestOrder 0 = .ok (.iconst 0, 1) := by decide +kernel
theorem dX8_bestOrder_1 : decode cX8_bestOrder 1 = .ok (.istore_n 3, 1) := by decide +kernel
theorem dX8_bestOrder_2 : decode cX8_bestOrder 2 = .ok (.iconst (-1), 1) := by decide +kernel
theorem dX8_bestOrder_3 : decode cX8_bestOrder 3 = .ok (.istore 4, 2) := by decide +kernel
theorem dX8_bestOrder_5 : decode cX8_bestOrder 5 = .ok (.iconst 0, 1) := by decide +kernel
theorem dX8_bestOrder_6 : decode cX8_bestOrder 6 = .ok (.istore 5, 2) := by decide +kernel
theorem dX8_bestOrder_8 : decode cX8_bestOrder 8 = .ok (.iload 5, 2) := by decide +kernel
theorem dX8_bestOrder_10 : decode cX8_bestOrder 10 = .ok (.aload_n 0, 1) := by decide +kernel
theorem dX8_bestOrder_11 : decode cX8_bestOrder 11 = .ok (.getfield 65, 3) := by decide +kernel
theorem dX8_bestOrder_14 : decode cX8_bestOrder 14 = .ok (.iload_n 1, 1) := by decide +kernel
theorem dX8_bestOrder_15 : decode cX8_bestOrder 15 = .ok (.iaload, 1) := by decide +kernel
theorem dX8_bestOrder_16 : decode cX8_bestOrder 16 = .ok (.invokestatic 242, 3) := by decide +kernel
theorem dX8_bestOrder_19 : decode cX8_bestOrder 19 = .ok (.if_icmp .ge 59, 3) := by decide +kernel
theorem dX8_bestOrder_22 : decode cX8_bestOrder 22 = .ok (.aload_n 0, 1) := by decide +kernel
theorem dX8_bestOrder_23 : decode cX8_bestOrder 23 = .ok (.aload_n 0, 1) := by decide +kernel
theorem dX8_bestOrder_24 : decode cX8_bestOrder 24 = .ok (.getfield 65, 3) := by decide +kernel
theorem dX8_bestOrder_27 : decode cX8_bestOrder 27 = .ok (.iload_n 1, 1) := by decide +kernel
theorem dX8_bestOrder_28 : decode cX8_bestOrder 28 = .ok (.iaload, 1) := by decide +kernel
theorem dX8_bestOrder_29 : decode cX8_bestOrder 29 = .ok (.iload 5, 2) := by decide +kernel
theorem dX8_bestOrder_31 : decode cX8_bestOrder 31 = .ok (.invokevirtual 245, 3) := by decide +kernel
theorem dX8_bestOrder_34 : decode cX8_bestOrder 34 = .ok (.aload_n 0, 1) := by decide +kernel
theorem dX8_bestOrder_35 : decode cX8_bestOrder 35 = .ok (.iload_n 1, 1) := by decide +kernel
theorem dX8_bestOrder_36 : decode cX8_bestOrder 36 = .ok (.iload_n 2, 1) := by decide +kernel
theorem dX8_bestOrder_37 : decode cX8_bestOrder 37 = .ok (.invokevirtual 248, 3) := by decide +kernel
theorem dX8_bestOrder_40 : decode cX8_bestOrder 40 = .ok (.istore 6, 2) := by decide +kernel
theorem dX8_bestOrder_42 : decode cX8_bestOrder 42 = .ok (.iload 6, 2) := by decide +kernel
theorem dX8_bestOrder_44 : decode cX8_bestOrder 44 = .ok (.iload 4, 2) := by decide +kernel
theorem dX8_bestOrder_46 : decode cX8_bestOrder 46 = .ok (.if_icmp .le 8, 3) := by decide +kernel
theorem dX8_bestOrder_49 : decode cX8_bestOrder 49 = .ok (.iload 5, 2) := by decide +kernel
theorem dX8_bestOrder_51 : decode cX8_bestOrder 51 = .ok (.goto 4, 3) := by decide +kernel
theorem dX8_bestOrder_54 : decode cX8_bestOrder 54 = .ok (.iload_n 3, 1) := by decide +kernel
theorem dX8_bestOrder_55 : decode cX8_bestOrder 55 = .ok (.istore_n 3, 1) := by decide +kernel
theorem dX8_bestOrder_56 : decode cX8_bestOrder 56 = .ok (.iload 6, 2) := by decide +kernel
theorem dX8_bestOrder_58 : decode cX8_bestOrder 58 = .ok (.iload 4, 2) := by decide +kernel
theorem dX8_bestOrder_60 : decode cX8_bestOrder 60 = .ok (.if_icmp .le 8, 3) := by decide +kernel
theorem dX8_bestOrder_63 : decode cX8_bestOrder 63 = .ok (.iload 6, 2) := by decide +kernel
theorem dX8_bestOrder_65 : decode cX8_bestOrder 65 = .ok (.goto 5, 3) := by decide +kernel
theorem dX8_bestOrder_68 : decode cX8_bestOrder 68 = .ok (.iload 4, 2) := by decide +kernel
theorem dX8_bestOrder_70 : decode cX8_bestOrder 70 = .ok (.istore 4, 2) := by decide +kernel
theorem dX8_bestOrder_72 : decode cX8_bestOrder 72 = .ok (.iinc 5 1, 3) := by decide +kernel
theorem dX8_bestOrder_75 : decode cX8_bestOrder 75 = .ok (.goto (-67), 3) := by decide +kernel
theorem dX8_bestOrder_78 : decode cX8_bestOrder 78 = .ok (.iload_n 3, 1) := by decide +kernel
theorem dX8_bestOrder_79 : decode cX8_bestOrder 79 = .ok (.ireturn, 1) := by decide +kernel
theorem dX8_asksPlan_0 : decode cX8_asksPlan 0 = .ok (.aload_n 0, 1) := by decide +kernel
theorem dX8_asksPlan_1 : decode cX8_asksPlan 1 = .ok (.iload_n 1, 1) := by decide +kernel
theorem dX8_asksPlan_2 : decode cX8_asksPlan 2 = .ok (.invokevirtual 230, 3) := by decide +kernel
theorem dX8_asksPlan_5 : decode cX8_asksPlan 5 = .ok (.ifCond .eq 11, 3) := by decide +kernel
theorem dX8_asksPlan_8 : decode cX8_asksPlan 8 = .ok (.iload_n 3, 1) := by decide +kernel
theorem dX8_asksPlan_9 : decode cX8_asksPlan 9 = .ok (.ifCond .eq 7, 3) := by decide +kernel
theorem dX8_asksPlan_12 : decode cX8_asksPlan 12 = .ok (.iconst 1, 1) := by decide +kernel
theorem dX8_asksPlan_13 : decode cX8_asksPlan 13 = .ok (.goto 4, 3) := by decide +kernel
theorem dX8_asksPlan_16 : decode cX8_asksPlan 16 = .ok (.iconst 0, 1) := by decide +kernel
theorem dX8_asksPlan_17 : decode cX8_asksPlan 17 = .ok (.istore 4, 2) := by decide +kernel
theorem dX8_asksPlan_19 : decode cX8_asksPlan 19 = .ok (.aload_n 0, 1) := by decide +kernel
theorem dX8_asksPlan_20 : decode cX8_asksPlan 20 = .ok (.iload 4, 2) := by decide +kernel
theorem dX8_asksPlan_22 : decode cX8_asksPlan 22 = .ok (.ifCond .ne 7, 3) := by decide +kernel
theorem dX8_asksPlan_25 : decode cX8_asksPlan 25 = .ok (.iconst 1, 1) := by decide +kernel
theorem dX8_asksPlan_26 : decode cX8_asksPlan 26 = .ok (.goto 29, 3) := by decide +kernel
theorem dX8_asksPlan_29 : decode cX8_asksPlan 29 = .ok (.iload_n 2, 1) := by decide +kernel
theorem dX8_asksPlan_30 : decode cX8_asksPlan 30 = .ok (.invokestatic 189, 3) := by decide +kernel
theorem dX8_asksPlan_33 : decode cX8_asksPlan 33 = .ok (.ifCond .ne 7, 3) := by decide +kernel
theorem dX8_asksPlan_36 : decode cX8_asksPlan 36 = .ok (.iconst 2, 1) := by decide +kernel
theorem dX8_asksPlan_37 : decode cX8_asksPlan 37 = .ok (.goto 18, 3) := by decide +kernel
theorem dX8_asksPlan_40 : decode cX8_asksPlan 40 = .ok (.aload_n 0, 1) := by decide +kernel
theorem dX8_asksPlan_41 : decode cX8_asksPlan 41 = .ok (.getfield 65, 3) := by decide +kernel
theorem dX8_asksPlan_44 : decode cX8_asksPlan 44 = .ok (.iload_n 1, 1) := by decide +kernel
theorem dX8_asksPlan_45 : decode cX8_asksPlan 45 = .ok (.iaload, 1) := by decide +kernel
theorem dX8_asksPlan_46 : decode cX8_asksPlan 46 = .ok (.iconst 5, 1) := by decide +kernel
theorem dX8_asksPlan_47 : decode cX8_asksPlan 47 = .ok (.if_icmp .le 7, 3) := by decide +kernel
theorem dX8_asksPlan_50 : decode cX8_asksPlan 50 = .ok (.iconst 3, 1) := by decide +kernel
theorem dX8_asksPlan_51 : decode cX8_asksPlan 51 = .ok (.goto 4, 3) := by decide +kernel
theorem dX8_asksPlan_54 : decode cX8_asksPlan 54 = .ok (.iconst 0, 1) := by decide +kernel
theorem dX8_asksPlan_55 : decode cX8_asksPlan 55 = .ok (.invokevirtual 145, 3) := by decide +kernel
theorem dX8_asksPlan_58 : decode cX8_asksPlan 58 = .ok (.ireturn, 1) := by decide +kernel
theorem dX8_plan_0 : decode cX8_plan 0 = .ok (.aload_n 0, 1) := by decide +kernel
theorem dX8_plan_1 : decode cX8_plan 1 = .ok (.iload_n 1, 1) := by decide +kernel
theorem dX8_plan_2 : decode cX8_plan 2 = .ok (.iload_n 2, 1) := by decide +kernel
theorem dX8_plan_3 : decode cX8_plan 3 = .ok (.iconst 1, 1) := by decide +kernel
theorem dX8_plan_4 : decode cX8_plan 4 = .ok (.invokevirtual 251, 3) := by decide +kernel
theorem dX8_plan_7 : decode cX8_plan 7 = .ok (.ifCond .ne 5, 3) := by decide +kernel
theorem dX8_plan_10 : decode cX8_plan 10 = .ok (.iconst 0, 1) := by decide +kernel
theorem dX8_plan_11 : decode cX8_plan 11 = .ok (.ireturn, 1) := by decide +kernel
theorem dX8_plan_12 : decode cX8_plan 12 = .ok (.aload_n 0, 1) := by decide +kernel
theorem dX8_plan_13 : decode cX8_plan 13 = .ok (.aload_n 0, 1) := by decide +kernel
theorem dX8_plan_14 : decode cX8_plan 14 = .ok (.getfield 65, 3) := by decide +kernel
theorem dX8_plan_17 : decode cX8_plan 17 = .ok (.iload_n 1, 1) := by decide +kernel
theorem dX8_plan_18 : decode cX8_plan 18 = .ok (.iaload, 1) := by decide +kernel
theorem dX8_plan_19 : decode cX8_plan 19 = .ok (.aload_n 0, 1) := by decide +kernel
theorem dX8_plan_20 : decode cX8_plan 20 = .ok (.iload_n 1, 1) := by decide +kernel
theorem dX8_plan_21 : decode cX8_plan 21 = .ok (.iload_n 2, 1) := by decide +kernel
theorem dX8_plan_22 : decode cX8_plan 22 = .ok (.invokevirtual 255, 3) := by decide +kernel
theorem dX8_plan_25 : decode cX8_plan 25 = .ok (.invokevirtual 245, 3) := by decide +kernel
theorem dX8_plan_28 : decode cX8_plan 28 = .ok (.aload_n 0, 1) := by decide +kernel
theorem dX8_plan_29 : decode cX8_plan 29 = .ok (.iload_n 1, 1) := by decide +kernel
theorem dX8_plan_30 : decode cX8_plan 30 = .ok (.iload_n 2, 1) := by decide +kernel
theorem dX8_plan_31 : decode cX8_plan 31 = .ok (.invokevirtual 248, 3) := by decide +kernel
theorem dX8_plan_34 : decode cX8_plan 34 = .ok (.ireturn, 1) := by decide +kernel
theorem dX8_planCell_0 : decode cX8_planCell 0 = .ok (.aload_n 0, 1) := by decide +kernel
theorem dX8_planCell_1 : decode cX8_planCell 1 = .ok (.iload_n 1, 1) := by decide +kernel
theorem dX8_planCell_2 : decode cX8_planCell 2 = .ok (.iload_n 2, 1) := by decide +kernel
theorem dX8_planCell_3 : decode cX8_planCell 3 = .ok (.iload_n 3, 1) := by decide +kernel
theorem dX8_planCell_4 : decode cX8_planCell 4 = .ok (.ifCond .lt 7, 3) := by decide +kernel
theorem dX8_planCell_7 : decode cX8_planCell 7 = .ok (.iconst 1, 1) := by decide +kernel
theorem dX8_planCell_8 : decode cX8_planCell 8 = .ok (.goto 4, 3) := by decide +kernel
theorem dX8_planCell_11 : decode cX8_planCell 11 = .ok (.iconst 0, 1) := by decide +kernel
theorem dX8_planCell_12 : decode cX8_planCell 12 = .ok (.invokevirtual 251, 3) := by decide +kernel
theorem dX8_planCell_15 : decode cX8_planCell 15 = .ok (.ifCond .ne 5, 3) := by decide +kernel
theorem dX8_planCell_18 : decode cX8_planCell 18 = .ok (.iconst 0, 1) := by decide +kernel
theorem dX8_planCell_19 : decode cX8_planCell 19 = .ok (.ireturn, 1) := by decide +kernel
theorem dX8_planCell_20 : decode cX8_planCell 20 = .ok (.iload_n 3, 1) := by decide +kernel
theorem dX8_planCell_21 : decode cX8_planCell 21 = .ok (.aload_n 0, 1) := by decide +kernel
theorem dX8_planCell_22 : decode cX8_planCell 22 = .ok (.getfield 65, 3) := by decide +kernel
theorem dX8_planCell_25 : decode cX8_planCell 25 = .ok (.iload_n 1, 1) := by decide +kernel
theorem dX8_planCell_26 : decode cX8_planCell 26 = .ok (.iaload, 1) := by decide +kernel
theorem dX8_planCell_27 : decode cX8_planCell 27 = .ok (.if_icmp .lt 5, 3) := by decide +kernel
theorem dX8_planCell_30 : decode cX8_planCell 30 = .ok (.iconst (-1), 1) := by decide +kernel
theorem dX8_planCell_31 : decode cX8_planCell 31 = .ok (.ireturn, 1) := by decide +kernel
theorem dX8_planCell_32 : decode cX8_planCell 32 = .ok (.aload_n 0, 1) := by decide +kernel
theorem dX8_planCell_33 : decode cX8_planCell 33 = .ok (.aload_n 0, 1) := by decide +kernel
theorem dX8_planCell_34 : decode cX8_planCell 34 = .ok (.getfield 65, 3) := by decide +kernel
theorem dX8_planCell_37 : decode cX8_planCell 37 = .ok (.iload_n 1, 1) := by decide +kernel
theorem dX8_planCell_38 : decode cX8_planCell 38 = .ok (.iaload, 1) := by decide +kernel
theorem dX8_planCell_39 : decode cX8_planCell 39 = .ok (.aload_n 0, 1) := by decide +kernel
theorem dX8_planCell_40 : decode cX8_planCell 40 = .ok (.iload_n 1, 1) := by decide +kernel
theorem dX8_planCell_41 : decode cX8_planCell 41 = .ok (.iload_n 2, 1) := by decide +kernel
theorem dX8_planCell_42 : decode cX8_planCell 42 = .ok (.invokevirtual 255, 3) := by decide +kernel
theorem dX8_planCell_45 : decode cX8_planCell 45 = .ok (.invokevirtual 245, 3) := by decide +kernel
theorem dX8_planCell_48 : decode cX8_planCell 48 = .ok (.aload_n 0, 1) := by decide +kernel
theorem dX8_planCell_49 : decode cX8_planCell 49 = .ok (.getfield 62, 3) := by decide +kernel
theorem dX8_planCell_52 : decode cX8_planCell 52 = .ok (.iload_n 1, 1) := by decide +kernel
theorem dX8_planCell_53 : decode cX8_planCell 53 = .ok (.iaload, 1) := by decide +kernel
theorem dX8_planCell_54 : decode cX8_planCell 54 = .ok (.aload_n 0, 1) := by decide +kernel
theorem dX8_planCell_55 : decode cX8_planCell 55 = .ok (.getfield 114, 3) := by decide +kernel
theorem dX8_planCell_58 : decode cX8_planCell 58 = .ok (.iload_n 3, 1) := by decide +kernel
theorem dX8_planCell_59 : decode cX8_planCell 59 = .ok (.iaload, 1) := by decide +kernel
theorem dX8_planCell_60 : decode cX8_planCell 60 = .ok (.iadd, 1) := by decide +kernel
theorem dX8_planCell_61 : decode cX8_planCell 61 = .ok (.ireturn, 1) := by decide +kernel
