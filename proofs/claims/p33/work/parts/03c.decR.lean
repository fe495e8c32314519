theorem dL_isRefused_0 : decode cL_isRefused 0 = .ok (.iload_n 2, 1) := by decide +kernel
theorem dL_isRefused_1 : decode cL_isRefused 1 = .ok (.iconst 2, 1) := by decide +kernel
theorem dL_isRefused_2 : decode cL_isRefused 2 = .ok (.irem, 1) := by decide +kernel
theorem dL_isRefused_3 : decode cL_isRefused 3 = .ok (.ifCond .ne 7, 3) := by decide +kernel
theorem dL_isRefused_6 : decode cL_isRefused 6 = .ok (.iconst 1, 1) := by decide +kernel
theorem dL_isRefused_7 : decode cL_isRefused 7 = .ok (.goto 4, 3) := by decide +kernel
theorem dL_isRefused_10 : decode cL_isRefused 10 = .ok (.iconst 0, 1) := by decide +kernel
theorem dL_isRefused_11 : decode cL_isRefused 11 = .ok (.istore_n 3, 1) := by decide +kernel
theorem dL_isRefused_12 : decode cL_isRefused 12 = .ok (.iload_n 3, 1) := by decide +kernel
theorem dL_isRefused_13 : decode cL_isRefused 13 = .ok (.ifCond .eq 12, 3) := by decide +kernel
theorem dL_isRefused_16 : decode cL_isRefused 16 = .ok (.iconst (-1), 1) := by decide +kernel
theorem dL_isRefused_17 : decode cL_isRefused 17 = .ok (.iload_n 2, 1) := by decide +kernel
theorem dL_isRefused_18 : decode cL_isRefused 18 = .ok (.bipush 30, 2) := by decide +kernel
theorem dL_isRefused_20 : decode cL_isRefused 20 = .ok (.irem, 1) := by decide +kernel
theorem dL_isRefused_21 : decode cL_isRefused 21 = .ok (.isub, 1) := by decide +kernel
theorem dL_isRefused_22 : decode cL_isRefused 22 = .ok (.goto 10, 3) := by decide +kernel
theorem dL_isRefused_25 : decode cL_isRefused 25 = .ok (.bipush 40, 2) := by decide +kernel
theorem dL_isRefused_27 : decode cL_isRefused 27 = .ok (.iload_n 2, 1) := by decide +kernel
theorem dL_isRefused_28 : decode cL_isRefused 28 = .ok (.bipush 30, 2) := by decide +kernel
theorem dL_isRefused_30 : decode cL_isRefused 30 = .ok (.irem, 1) := by decide +kernel
theorem dL_isRefused_31 : decode cL_isRefused 31 = .ok (.iadd, 1) := by decide +kernel
theorem dL_isRefused_32 : decode cL_isRefused 32 = .ok (.istore 4, 2) := by decide +kernel
theorem dL_isRefused_34 : decode cL_isRefused 34 = .ok (.iload_n 3, 1) := by decide +kernel
theorem dL_isRefused_35 : decode cL_isRefused 35 = .ok (.ifCond .eq 12, 3) := by decide +kernel
theorem dL_isRefused_38 : decode cL_isRefused 38 = .ok (.iconst (-1), 1) := by decide +kernel
theorem dL_isRefused_39 : decode cL_isRefused 39 = .ok (.iload_n 2, 1) := by decide +kernel
theorem dL_isRefused_40 : decode cL_isRefused 40 = .ok (.bipush 30, 2) := by decide +kernel
theorem dL_isRefused_42 : decode cL_isRefused 42 = .ok (.irem, 1) := by decide +kernel
theorem dL_isRefused_43 : decode cL_isRefused 43 = .ok (.isub, 1) := by decide +kernel
theorem dL_isRefused_44 : decode cL_isRefused 44 = .ok (.goto 11, 3) := by decide +kernel
theorem dL_isRefused_47 : decode cL_isRefused 47 = .ok (.aload_n 1, 1) := by decide +kernel
theorem dL_isRefused_48 : decode cL_isRefused 48 = .ok (.iconst 0, 1) := by decide +kernel
theorem dL_isRefused_49 : decode cL_isRefused 49 = .ok (.iaload, 1) := by decide +kernel
theorem dL_isRefused_50 : decode cL_isRefused 50 = .ok (.iload_n 2, 1) := by decide +kernel
theorem dL_isRefused_51 : decode cL_isRefused 51 = .ok (.bipush 30, 2) := by decide +kernel
theorem dL_isRefused_53 : decode cL_isRefused 53 = .ok (.irem, 1) := by decide +kernel
theorem dL_isRefused_54 : decode cL_isRefused 54 = .ok (.iadd, 1) := by decide +kernel
theorem dL_isRefused_55 : decode cL_isRefused 55 = .ok (.istore 5, 2) := by decide +kernel
theorem dL_isRefused_57 : decode cL_isRefused 57 = .ok (.iload_n 3, 1) := by decide +kernel
theorem dL_isRefused_58 : decode cL_isRefused 58 = .ok (.ifCond .eq 12, 3) := by decide +kernel
theorem dL_isRefused_61 : decode cL_isRefused 61 = .ok (.iconst (-1), 1) := by decide +kernel
theorem dL_isRefused_62 : decode cL_isRefused 62 = .ok (.iload_n 2, 1) := by decide +kernel
theorem dL_isRefused_63 : decode cL_isRefused 63 = .ok (.bipush 30, 2) := by decide +kernel
theorem dL_isRefused_65 : decode cL_isRefused 65 = .ok (.irem, 1) := by decide +kernel
theorem dL_isRefused_66 : decode cL_isRefused 66 = .ok (.isub, 1) := by decide +kernel
theorem dL_isRefused_67 : decode cL_isRefused 67 = .ok (.goto 11, 3) := by decide +kernel
theorem dL_isRefused_70 : decode cL_isRefused 70 = .ok (.aload_n 1, 1) := by decide +kernel
theorem dL_isRefused_71 : decode cL_isRefused 71 = .ok (.iconst 1, 1) := by decide +kernel
theorem dL_isRefused_72 : decode cL_isRefused 72 = .ok (.iaload, 1) := by decide +kernel
theorem dL_isRefused_73 : decode cL_isRefused 73 = .ok (.iload_n 2, 1) := by decide +kernel
theorem dL_isRefused_74 : decode cL_isRefused 74 = .ok (.bipush 30, 2) := by decide +kernel
theorem dL_isRefused_76 : decode cL_isRefused 76 = .ok (.irem, 1) := by decide +kernel
theorem dL_isRefused_77 : decode cL_isRefused 77 = .ok (.iadd, 1) := by decide +kernel
theorem dL_isRefused_78 : decode cL_isRefused 78 = .ok (.istore 6, 2) := by decide +kernel
theorem dL_isRefused_80 : decode cL_isRefused 80 = .ok (.iload_n 3, 1) := by decide +kernel
theorem dL_isRefused_81 : decode cL_isRefused 81 = .ok (.ifCond .eq 12, 3) := by decide +kernel
theorem dL_isRefused_84 : decode cL_isRefused 84 = .ok (.iconst (-1), 1) := by decide +kernel
theorem dL_isRefused_85 : decode cL_isRefused 85 = .ok (.iload_n 2, 1) := by decide +kernel
theorem dL_isRefused_86 : decode cL_isRefused 86 = .ok (.bipush 30, 2) := by decide +kernel
theorem dL_isRefused_88 : decode cL_isRefused 88 = .ok (.irem, 1) := by decide +kernel
theorem dL_isRefused_89 : decode cL_isRefused 89 = .ok (.isub, 1) := by decide +kernel
theorem dL_isRefused_90 : decode cL_isRefused 90 = .ok (.goto 9, 3) := by decide +kernel
theorem dL_isRefused_93 : decode cL_isRefused 93 = .ok (.iconst 4, 1) := by decide +kernel
theorem dL_isRefused_94 : decode cL_isRefused 94 = .ok (.iload_n 2, 1) := by decide +kernel
theorem dL_isRefused_95 : decode cL_isRefused 95 = .ok (.bipush 30, 2) := by decide +kernel
theorem dL_isRefused_97 : decode cL_isRefused 97 = .ok (.irem, 1) := by decide +kernel
theorem dL_isRefused_98 : decode cL_isRefused 98 = .ok (.iadd, 1) := by decide +kernel
theorem dL_isRefused_99 : decode cL_isRefused 99 = .ok (.istore 7, 2) := by decide +kernel
theorem dL_isRefused_101 : decode cL_isRefused 101 = .ok (.aload_n 0, 1) := by decide +kernel
theorem dL_isRefused_102 : decode cL_isRefused 102 = .ok (.aload_n 1, 1) := by decide +kernel
theorem dL_isRefused_103 : decode cL_isRefused 103 = .ok (.invokestatic 137, 3) := by decide +kernel
theorem dL_isRefused_106 : decode cL_isRefused 106 = .ok (.lstore 8, 2) := by decide +kernel
theorem dL_isRefused_108 : decode cL_isRefused 108 = .ok (.aload_n 0, 1) := by decide +kernel
theorem dL_isRefused_109 : decode cL_isRefused 109 = .ok (.iconst 0, 1) := by decide +kernel
theorem dL_isRefused_110 : decode cL_isRefused 110 = .ok (.iload 4, 2) := by decide +kernel
theorem dL_isRefused_112 : decode cL_isRefused 112 = .ok (.iconst (-1), 1) := by decide +kernel
theorem dL_isRefused_113 : decode cL_isRefused 113 = .ok (.bipush 99, 2) := by decide +kernel
theorem dL_isRefused_115 : decode cL_isRefused 115 = .ok (.invokestatic 141, 3) := by decide +kernel
theorem dL_isRefused_118 : decode cL_isRefused 118 = .ok (.ifCond .eq 744, 3) := by decide +kernel
theorem dL_isRefused_121 : decode cL_isRefused 121 = .ok (.aload_n 0, 1) := by decide +kernel
theorem dL_isRefused_122 : decode cL_isRefused 122 = .ok (.iconst 0, 1) := by decide +kernel
theorem dL_isRefused_123 : decode cL_isRefused 123 = .ok (.iload_n 2, 1) := by decide +kernel
theorem dL_isRefused_124 : decode cL_isRefused 124 = .ok (.bipush 40, 2) := by decide +kernel
theorem dL_isRefused_126 : decode cL_isRefused 126 = .ok (.irem, 1) := by decide +kernel
theorem dL_isRefused_127 : decode cL_isRefused 127 = .ok (.iload_n 3, 1) := by decide +kernel
theorem dL_isRefused_128 : decode cL_isRefused 128 = .ok (.ifCond .eq 12, 3) := by decide +kernel
theorem dL_isRefused_131 : decode cL_isRefused 131 = .ok (.iconst (-1), 1) := by decide +kernel
theorem dL_isRefused_132 : decode cL_isRefused 132 = .ok (.iload_n 2, 1) := by decide +kernel
theorem dL_isRefused_133 : decode cL_isRefused 133 = .ok (.bipush 30, 2) := by decide +kernel
theorem dL_isRefused_135 : decode cL_isRefused 135 = .ok (.irem, 1) := by decide +kernel
theorem dL_isRefused_136 : decode cL_isRefused 136 = .ok (.isub, 1) := by decide +kernel
theorem dL_isRefused_137 : decode cL_isRefused 137 = .ok (.goto 5, 3) := by decide +kernel
theorem dL_isRefused_140 : decode cL_isRefused 140 = .ok (.ldc 145, 2) := by decide +kernel
theorem dL_isRefused_142 : decode cL_isRefused 142 = .ok (.iconst 0, 1) := by decide +kernel
theorem dL_isRefused_143 : decode cL_isRefused 143 = .ok (.invokestatic 146, 3) := by decide +kernel
theorem dL_isRefused_146 : decode cL_isRefused 146 = .ok (.ifCond .eq 716, 3) := by decide +kernel
theorem dL_isRefused_149 : decode cL_isRefused 149 = .ok (.aload_n 0, 1) := by decide +kernel
theorem dL_isRefused_150 : decode cL_isRefused 150 = .ok (.iconst 0, 1) := by decide +kernel
theorem dL_isRefused_151 : decode cL_isRefused 151 = .ok (.iload_n 2, 1) := by decide +kernel
theorem dL_isRefused_152 : decode cL_isRefused 152 = .ok (.bipush 40, 2) := by decide +kernel
theorem dL_isRefused_154 : decode cL_isRefused 154 = .ok (.irem, 1) := by decide +kernel
theorem dL_isRefused_155 : decode cL_isRefused 155 = .ok (.iconst 0, 1) := by decide +kernel
theorem dL_isRefused_156 : decode cL_isRefused 156 = .ok (.iload_n 3, 1) := by decide +kernel
theorem dL_isRefused_157 : decode cL_isRefused 157 = .ok (.ifCond .eq 7, 3) := by decide +kernel
theorem dL_isRefused_160 : decode cL_isRefused 160 = .ok (.iconst (-1), 1) := by decide +kernel
theorem dL_isRefused_161 : decode cL_isRefused 161 = .ok (.goto 10, 3) := by decide +kernel
theorem dL_isRefused_164 : decode cL_isRefused 164 = .ok (.bipush 10, 2) := by decide +kernel
theorem dL_isRefused_166 : decode cL_isRefused 166 = .ok (.iload_n 2, 1) := by decide +kernel
theorem dL_isRefused_167 : decode cL_isRefused 167 = .ok (.bipush 30, 2) := by decide +kernel
theorem dL_isRefused_169 : decode cL_isRefused 169 = .ok (.irem, 1) := by decide +kernel
theorem dL_isRefused_170 : decode cL_isRefused 170 = .ok (.iadd, 1) := by decide +kernel
theorem dL_isRefused_171 : decode cL_isRefused 171 = .ok (.invokestatic 146, 3) := by decide +kernel
theorem dL_isRefused_174 : decode cL_isRefused 174 = .ok (.ifCond .eq 688, 3) := by decide +kernel
theorem dL_isRefused_177 : decode cL_isRefused 177 = .ok (.aload_n 0, 1) := by decide +kernel
theorem dL_isRefused_178 : decode cL_isRefused 178 = .ok (.iconst 1, 1) := by decide +kernel
theorem dL_isRefused_179 : decode cL_isRefused 179 = .ok (.iload_n 3, 1) := by decide +kernel
theorem dL_isRefused_180 : decode cL_isRefused 180 = .ok (.ifCond .eq 12, 3) := by decide +kernel
theorem dL_isRefused_183 : decode cL_isRefused 183 = .ok (.iconst (-1), 1) := by decide +kernel
theorem dL_isRefused_184 : decode cL_isRefused 184 = .ok (.iload_n 2, 1) := by decide +kernel
theorem dL_isRefused_185 : decode cL_isRefused 185 = .ok (.bipush 30, 2) := by decide +kernel
theorem dL_isRefused_187 : decode cL_isRefused 187 = .ok (.irem, 1) := by decide +kernel
theorem dL_isRefused_188 : decode cL_isRefused 188 = .ok (.isub, 1) := by decide +kernel
theorem dL_isRefused_189 : decode cL_isRefused 189 = .ok (.goto 6, 3) := by decide +kernel
theorem dL_isRefused_192 : decode cL_isRefused 192 = .ok (.sipush 1001, 3) := by decide +kernel
theorem dL_isRefused_195 : decode cL_isRefused 195 = .ok (.iconst 0, 1) := by decide +kernel
theorem dL_isRefused_196 : decode cL_isRefused 196 = .ok (.iconst 0, 1) := by decide +kernel
theorem dL_isRefused_197 : decode cL_isRefused 197 = .ok (.invokestatic 146, 3) := by decide +kernel
theorem dL_isRefused_200 : decode cL_isRefused 200 = .ok (.ifCond .eq 662, 3) := by decide +kernel
theorem dL_isRefused_203 : decode cL_isRefused 203 = .ok (.aload_n 0, 1) := by decide +kernel
theorem dL_isRefused_204 : decode cL_isRefused 204 = .ok (.iconst 2, 1) := by decide +kernel
theorem dL_isRefused_205 : decode cL_isRefused 205 = .ok (.iload_n 3, 1) := by decide +kernel
theorem dL_isRefused_206 : decode cL_isRefused 206 = .ok (.ifCond .eq 7, 3) := by decide +kernel
theorem dL_isRefused_209 : decode cL_isRefused 209 = .ok (.iconst (-1), 1) := by decide +kernel
theorem dL_isRefused_210 : decode cL_isRefused 210 = .ok (.goto 11, 3) := by decide +kernel
theorem dL_isRefused_213 : decode cL_isRefused 213 = .ok (.sipush 1001, 3) := by decide +kernel
theorem dL_isRefused_216 : decode cL_isRefused 216 = .ok (.iload_n 2, 1) := by decide +kernel
theorem dL_isRefused_217 : decode cL_isRefused 217 = .ok (.bipush 30, 2) := by decide +kernel
theorem dL_isRefused_219 : decode cL_isRefused 219 = .ok (.irem, 1) := by decide +kernel
theorem dL_isRefused_220 : decode cL_isRefused 220 = .ok (.iadd, 1) := by decide +kernel
theorem dL_isRefused_221 : decode cL_isRefused 221 = .ok (.iconst 0, 1) := by decide +kernel
theorem dL_isRefused_222 : decode cL_isRefused 222 = .ok (.iconst 0, 1) := by decide +kernel
theorem dL_isRefused_223 : decode cL_isRefused 223 = .ok (.invokestatic 146, 3) := by decide +kernel
theorem dL_isRefused_226 : decode cL_isRefused 226 = .ok (.ifCond .eq 636, 3) := by decide +kernel
theorem dL_isRefused_229 : decode cL_isRefused 229 = .ok (.aload_n 0, 1) := by decide +kernel
theorem dL_isRefused_230 : decode cL_isRefused 230 = .ok (.iconst 2, 1) := by decide +kernel
theorem dL_isRefused_231 : decode cL_isRefused 231 = .ok (.iconst 0, 1) := by decide +kernel
theorem dL_isRefused_232 : decode cL_isRefused 232 = .ok (.iload_n 3, 1) := by decide +kernel
theorem dL_isRefused_233 : decode cL_isRefused 233 = .ok (.ifCond .eq 12, 3) := by decide +kernel
theorem dL_isRefused_236 : decode cL_isRefused 236 = .ok (.iconst (-1), 1) := by decide +kernel
theorem dL_isRefused_237 : decode cL_isRefused 237 = .ok (.iload_n 2, 1) := by decide +kernel
theorem dL_isRefused_238 : decode cL_isRefused 238 = .ok (.bipush 30, 2) := by decide +kernel
theorem dL_isRefused_240 : decode cL_isRefused 240 = .ok (.irem, 1) := by decide +kernel
theorem dL_isRefused_241 : decode cL_isRefused 241 = .ok (.isub, 1) := by decide +kernel
theorem dL_isRefused_242 : decode cL_isRefused 242 = .ok (.goto 5, 3) := by decide +kernel
theorem dL_isRefused_245 : decode cL_isRefused 245 = .ok (.ldc 145, 2) := by decide +kernel
theorem dL_isRefused_247 : decode cL_isRefused 247 = .ok (.iconst 0, 1) := by decide +kernel
theorem dL_isRefused_248 : decode cL_isRefused 248 = .ok (.invokestatic 146, 3) := by decide +kernel
theorem dL_isRefused_251 : decode cL_isRefused 251 = .ok (.ifCond .eq 611, 3) := by decide +kernel
theorem dL_isRefused_254 : decode cL_isRefused 254 = .ok (.aload_n 0, 1) := by decide +kernel
theorem dL_isRefused_255 : decode cL_isRefused 255 = .ok (.iconst 3, 1) := by decide +kernel
theorem dL_isRefused_256 : decode cL_isRefused 256 = .ok (.iload_n 3, 1) := by decide +kernel
theorem dL_isRefused_257 : decode cL_isRefused 257 = .ok (.ifCond .eq 12, 3) := by decide +kernel
theorem dL_isRefused_260 : decode cL_isRefused 260 = .ok (.iconst 0, 1) := by decide +kernel
theorem dL_isRefused_261 : decode cL_isRefused 261 = .ok (.iload_n 2, 1) := by decide +kernel
theorem dL_isRefused_262 : decode cL_isRefused 262 = .ok (.bipush 30, 2) := by decide +kernel
theorem dL_isRefused_264 : decode cL_isRefused 264 = .ok (.irem, 1) := by decide +kernel
theorem dL_isRefused_265 : decode cL_isRefused 265 = .ok (.isub, 1) := by decide +kernel
theorem dL_isRefused_266 : decode cL_isRefused 266 = .ok (.goto 6, 3) := by decide +kernel
theorem dL_isRefused_269 : decode cL_isRefused 269 = .ok (.sipush 201, 3) := by decide +kernel
theorem dL_isRefused_272 : decode cL_isRefused 272 = .ok (.iconst 0, 1) := by decide +kernel
theorem dL_isRefused_273 : decode cL_isRefused 273 = .ok (.iconst 0, 1) := by decide +kernel
theorem dL_isRefused_274 : decode cL_isRefused 274 = .ok (.invokestatic 146, 3) := by decide +kernel
theorem dL_isRefused_277 : decode cL_isRefused 277 = .ok (.ifCond .eq 585, 3) := by decide +kernel
theorem dL_isRefused_280 : decode cL_isRefused 280 = .ok (.aload_n 0, 1) := by decide +kernel
theorem dL_isRefused_281 : decode cL_isRefused 281 = .ok (.iconst 4, 1) := by decide +kernel
theorem dL_isRefused_282 : decode cL_isRefused 282 = .ok (.iload_n 3, 1) := by decide +kernel
theorem dL_isRefused_283 : decode cL_isRefused 283 = .ok (.ifCond .eq 12, 3) := by decide +kernel
theorem dL_isRefused_286 : decode cL_isRefused 286 = .ok (.iconst 0, 1) := by decide +kernel
theorem dL_isRefused_287 : decode cL_isRefused 287 = .ok (.iload_n 2, 1) := by decide +kernel
theorem dL_isRefused_288 : decode cL_isRefused 288 = .ok (.bipush 30, 2) := by decide +kernel
theorem dL_isRefused_290 : decode cL_isRefused 290 = .ok (.irem, 1) := by decide +kernel
theorem dL_isRefused_291 : decode cL_isRefused 291 = .ok (.isub, 1) := by decide +kernel
theorem dL_isRefused_292 : decode cL_isRefused 292 = .ok (.goto 5, 3) := by decide +kernel
theorem dL_isRefused_295 : decode cL_isRefused 295 = .ok (.bipush 11, 2) := by decide +kernel
theorem dL_isRefused_297 : decode cL_isRefused 297 = .ok (.iconst 5, 1) := by decide +kernel
theorem dL_isRefused_298 : decode cL_isRefused 298 = .ok (.iconst 0, 1) := by decide +kernel
theorem dL_isRefused_299 : decode cL_isRefused 299 = .ok (.invokestatic 146, 3) := by decide +kernel
theorem dL_isRefused_302 : decode cL_isRefused 302 = .ok (.ifCond .eq 560, 3) := by decide +kernel
theorem dL_isRefused_305 : decode cL_isRefused 305 = .ok (.aload_n 0, 1) := by decide +kernel
theorem dL_isRefused_306 : decode cL_isRefused 306 = .ok (.iconst 4, 1) := by decide +kernel
theorem dL_isRefused_307 : decode cL_isRefused 307 = .ok (.iconst 5, 1) := by decide +kernel
theorem dL_isRefused_308 : decode cL_isRefused 308 = .ok (.iload_n 3, 1) := by decide +kernel
theorem dL_isRefused_309 : decode cL_isRefused 309 = .ok (.ifCond .eq 7, 3) := by decide +kernel
theorem dL_isRefused_312 : decode cL_isRefused 312 = .ok (.iconst 0, 1) := by decide +kernel
theorem dL_isRefused_313 : decode cL_isRefused 313 = .ok (.goto 10, 3) := by decide +kernel
theorem dL_isRefused_316 : decode cL_isRefused 316 = .ok (.bipush 101, 2) := by decide +kernel
theorem dL_isRefused_318 : decode cL_isRefused 318 = .ok (.iload_n 2, 1) := by decide +kernel
theorem dL_isRefused_319 : decode cL_isRefused 319 = .ok (.bipush 30, 2) := by decide +kernel
theorem dL_isRefused_321 : decode cL_isRefused 321 = .ok (.irem, 1) := by decide +kernel
theorem dL_isRefused_322 : decode cL_isRefused 322 = .ok (.iadd, 1) := by decide +kernel
theorem dL_isRefused_323 : decode cL_isRefused 323 = .ok (.iconst 0, 1) := by decide +kernel
theorem dL_isRefused_324 : decode cL_isRefused 324 = .ok (.invokestatic 146, 3) := by decide +kernel
theorem dL_isRefused_327 : decode cL_isRefused 327 = .ok (.ifCond .eq 535, 3) := by decide +kernel
theorem dL_isRefused_330 : decode cL_isRefused 330 = .ok (.aload_n 0, 1) := by decide +kernel
theorem dL_isRefused_331 : decode cL_isRefused 331 = .ok (.iconst 4, 1) := by decide +kernel
theorem dL_isRefused_332 : decode cL_isRefused 332 = .ok (.iconst 5, 1) := by decide +kernel
theorem dL_isRefused_333 : decode cL_isRefused 333 = .ok (.iconst 5, 1) := by decide +kernel
theorem dL_isRefused_334 : decode cL_isRefused 334 = .ok (.iload_n 3, 1) := by decide +kernel
theorem dL_isRefused_335 : decode cL_isRefused 335 = .ok (.ifCond .eq 12, 3) := by decide +kernel
theorem dL_isRefused_338 : decode cL_isRefused 338 = .ok (.iconst (-1), 1) := by decide +kernel
theorem dL_isRefused_339 : decode cL_isRefused 339 = .ok (.iload_n 2, 1) := by decide +kernel
theorem dL_isRefused_340 : decode cL_isRefused 340 = .ok (.bipush 30, 2) := by decide +kernel
theorem dL_isRefused_342 : decode cL_isRefused 342 = .ok (.irem, 1) := by decide +kernel
theorem dL_isRefused_343 : decode cL_isRefused 343 = .ok (.isub, 1) := by decide +kernel
theorem dL_isRefused_344 : decode cL_isRefused 344 = .ok (.goto 5, 3) := by decide +kernel
theorem dL_isRefused_347 : decode cL_isRefused 347 = .ok (.bipush 13, 2) := by decide +kernel
theorem dL_isRefused_349 : decode cL_isRefused 349 = .ok (.invokestatic 146, 3) := by decide +kernel
theorem dL_isRefused_352 : decode cL_isRefused 352 = .ok (.ifCond .eq 510, 3) := by decide +kernel
theorem dL_isRefused_355 : decode cL_isRefused 355 = .ok (.aload_n 0, 1) := by decide +kernel
theorem dL_isRefused_356 : decode cL_isRefused 356 = .ok (.iconst 4, 1) := by decide +kernel
theorem dL_isRefused_357 : decode cL_isRefused 357 = .ok (.iconst 5, 1) := by decide +kernel
theorem dL_isRefused_358 : decode cL_isRefused 358 = .ok (.iconst 5, 1) := by decide +kernel
theorem dL_isRefused_359 : decode cL_isRefused 359 = .ok (.iconst 0, 1) := by decide +kernel
theorem dL_isRefused_360 : decode cL_isRefused 360 = .ok (.iload_n 3, 1) := by decide +kernel
theorem dL_isRefused_361 : decode cL_isRefused 361 = .ok (.ifCond .eq 12, 3) := by decide +kernel
theorem dL_isRefused_364 : decode cL_isRefused 364 = .ok (.iconst (-1), 1) := by decide +kernel
theorem dL_isRefused_365 : decode cL_isRefused 365 = .ok (.iload_n 2, 1) := by decide +kernel
theorem dL_isRefused_366 : decode cL_isRefused 366 = .ok (.bipush 30, 2) := by decide +kernel
theorem dL_isRefused_368 : decode cL_isRefused 368 = .ok (.irem, 1) := by decide +kernel
theorem dL_isRefused_369 : decode cL_isRefused 369 = .ok (.isub, 1) := by decide +kernel
theorem dL_isRefused_370 : decode cL_isRefused 370 = .ok (.goto 5, 3) := by decide +kernel
theorem dL_isRefused_373 : decode cL_isRefused 373 = .ok (.bipush 13, 2) := by decide +kernel
theorem dL_isRefused_375 : decode cL_isRefused 375 = .ok (.invokestatic 123, 3) := by decide +kernel
theorem dL_isRefused_378 : decode cL_isRefused 378 = .ok (.ldc 111, 2) := by decide +kernel
theorem dL_isRefused_380 : decode cL_isRefused 380 = .ok (.if_icmp .ne 482, 3) := by decide +kernel
theorem dL_isRefused_383 : decode cL_isRefused 383 = .ok (.aload_n 0, 1) := by decide +kernel
theorem dL_isRefused_384 : decode cL_isRefused 384 = .ok (.iconst 5, 1) := by decide +kernel
theorem dL_isRefused_385 : decode cL_isRefused 385 = .ok (.iload 5, 2) := by decide +kernel
theorem dL_isRefused_387 : decode cL_isRefused 387 = .ok (.iconst 0, 1) := by decide +kernel
theorem dL_isRefused_388 : decode cL_isRefused 388 = .ok (.iconst 0, 1) := by decide +kernel
theorem dL_isRefused_389 : decode cL_isRefused 389 = .ok (.invokestatic 141, 3) := by decide +kernel
theorem dL_isRefused_392 : decode cL_isRefused 392 = .ok (.ifCond .eq 470, 3) := by decide +kernel
theorem dL_isRefused_395 : decode cL_isRefused 395 = .ok (.aload_n 0, 1) := by decide +kernel
theorem dL_isRefused_396 : decode cL_isRefused 396 = .ok (.bipush 6, 2) := by decide +kernel
theorem dL_isRefused_398 : decode cL_isRefused 398 = .ok (.iload 5, 2) := by decide +kernel
theorem dL_isRefused_400 : decode cL_isRefused 400 = .ok (.iconst 0, 1) := by decide +kernel
theorem dL_isRefused_401 : decode cL_isRefused 401 = .ok (.iconst 0, 1) := by decide +kernel
theorem dL_isRefused_402 : decode cL_isRefused 402 = .ok (.invokestatic 141, 3) := by decide +kernel
theorem dL_isRefused_405 : decode cL_isRefused 405 = .ok (.ifCond .eq 457, 3) := by decide +kernel
theorem dL_isRefused_408 : decode cL_isRefused 408 = .ok (.aload_n 0, 1) := by decide +kernel
theorem dL_isRefused_409 : decode cL_isRefused 409 = .ok (.bipush 7, 2) := by decide +kernel
theorem dL_isRefused_411 : decode cL_isRefused 411 = .ok (.iload 5, 2) := by decide +kernel
theorem dL_isRefused_413 : decode cL_isRefused 413 = .ok (.iconst 0, 1) := by decide +kernel
theorem dL_isRefused_414 : decode cL_isRefused 414 = .ok (.bipush 9, 2) := by decide +kernel
theorem dL_isRefused_416 : decode cL_isRefused 416 = .ok (.invokestatic 141, 3) := by decide +kernel
theorem dL_isRefused_419 : decode cL_isRefused 419 = .ok (.ifCond .eq 443, 3) := by decide +kernel
theorem dL_isRefused_422 : decode cL_isRefused 422 = .ok (.aload_n 0, 1) := by decide +kernel
theorem dL_isRefused_423 : decode cL_isRefused 423 = .ok (.bipush 8, 2) := by decide +kernel
theorem dL_isRefused_425 : decode cL_isRefused 425 = .ok (.iload 4, 2) := by decide +kernel
theorem dL_isRefused_427 : decode cL_isRefused 427 = .ok (.iconst 0, 1) := by decide +kernel
theorem dL_isRefused_428 : decode cL_isRefused 428 = .ok (.iconst 0, 1) := by decide +kernel
theorem dL_isRefused_429 : decode cL_isRefused 429 = .ok (.invokestatic 141, 3) := by decide +kernel
theorem dL_isRefused_432 : decode cL_isRefused 432 = .ok (.ifCond .eq 430, 3) := by decide +kernel
theorem dL_isRefused_435 : decode cL_isRefused 435 = .ok (.aload_n 0, 1) := by decide +kernel
theorem dL_isRefused_436 : decode cL_isRefused 436 = .ok (.bipush 9, 2) := by decide +kernel
theorem dL_isRefused_438 : decode cL_isRefused 438 = .ok (.iload 5, 2) := by decide +kernel
theorem dL_isRefused_440 : decode cL_isRefused 440 = .ok (.iconst 0, 1) := by decide +kernel
theorem dL_isRefused_441 : decode cL_isRefused 441 = .ok (.iconst 0, 1) := by decide +kernel
theorem dL_isRefused_442 : decode cL_isRefused 442 = .ok (.invokestatic 141, 3) := by decide +kernel
theorem dL_isRefused_445 : decode cL_isRefused 445 = .ok (.ifCond .eq 417, 3) := by decide +kernel
theorem dL_isRefused_448 : decode cL_isRefused 448 = .ok (.aload_n 0, 1) := by decide +kernel
theorem dL_isRefused_449 : decode cL_isRefused 449 = .ok (.bipush 10, 2) := by decide +kernel
theorem dL_isRefused_451 : decode cL_isRefused 451 = .ok (.iload 5, 2) := by decide +kernel
theorem dL_isRefused_453 : decode cL_isRefused 453 = .ok (.iconst 0, 1) := by decide +kernel
theorem dL_isRefused_454 : decode cL_isRefused 454 = .ok (.iconst 0, 1) := by decide +kernel
theorem dL_isRefused_455 : decode cL_isRefused 455 = .ok (.invokestatic 141, 3) := by decide +kernel
theorem dL_isRefused_458 : decode cL_isRefused 458 = .ok (.ifCond .eq 404, 3) := by decide +kernel
theorem dL_isRefused_461 : decode cL_isRefused 461 = .ok (.aload_n 0, 1) := by decide +kernel
theorem dL_isRefused_462 : decode cL_isRefused 462 = .ok (.bipush 11, 2) := by decide +kernel
theorem dL_isRefused_464 : decode cL_isRefused 464 = .ok (.iload 5, 2) := by decide +kernel
theorem dL_isRefused_466 : decode cL_isRefused 466 = .ok (.iconst 0, 1) := by decide +kernel
theorem dL_isRefused_467 : decode cL_isRefused 467 = .ok (.iconst 0, 1) := by decide +kernel
theorem dL_isRefused_468 : decode cL_isRefused 468 = .ok (.invokestatic 141, 3) := by decide +kernel
theorem dL_isRefused_471 : decode cL_isRefused 471 = .ok (.ifCond .eq 391, 3) := by decide +kernel
theorem dL_isRefused_474 : decode cL_isRefused 474 = .ok (.aload_n 0, 1) := by decide +kernel
theorem dL_isRefused_475 : decode cL_isRefused 475 = .ok (.bipush 12, 2) := by decide +kernel
theorem dL_isRefused_477 : decode cL_isRefused 477 = .ok (.iload_n 3, 1) := by decide +kernel
theorem dL_isRefused_478 : decode cL_isRefused 478 = .ok (.ifCond .eq 12, 3) := by decide +kernel
theorem dL_isRefused_481 : decode cL_isRefused 481 = .ok (.iconst 0, 1) := by decide +kernel
theorem dL_isRefused_482 : decode cL_isRefused 482 = .ok (.iload_n 2, 1) := by decide +kernel
theorem dL_isRefused_483 : decode cL_isRefused 483 = .ok (.bipush 30, 2) := by decide +kernel
theorem dL_isRefused_485 : decode cL_isRefused 485 = .ok (.irem, 1) := by decide +kernel
theorem dL_isRefused_486 : decode cL_isRefused 486 = .ok (.isub, 1) := by decide +kernel
theorem dL_isRefused_487 : decode cL_isRefused 487 = .ok (.goto 5, 3) := by decide +kernel
theorem dL_isRefused_490 : decode cL_isRefused 490 = .ok (.bipush 101, 2) := by decide +kernel
theorem dL_isRefused_492 : decode cL_isRefused 492 = .ok (.iconst 0, 1) := by decide +kernel
theorem dL_isRefused_493 : decode cL_isRefused 493 = .ok (.iconst 0, 1) := by decide +kernel
theorem dL_isRefused_494 : decode cL_isRefused 494 = .ok (.invokestatic 146, 3) := by decide +kernel
theorem dL_isRefused_497 : decode cL_isRefused 497 = .ok (.ifCond .eq 365, 3) := by decide +kernel
theorem dL_isRefused_500 : decode cL_isRefused 500 = .ok (.aload_n 0, 1) := by decide +kernel
theorem dL_isRefused_501 : decode cL_isRefused 501 = .ok (.bipush 13, 2) := by decide +kernel
theorem dL_isRefused_503 : decode cL_isRefused 503 = .ok (.iload_n 3, 1) := by decide +kernel
theorem dL_isRefused_504 : decode cL_isRefused 504 = .ok (.ifCond .eq 7, 3) := by decide +kernel
theorem dL_isRefused_507 : decode cL_isRefused 507 = .ok (.iconst 0, 1) := by decide +kernel
theorem dL_isRefused_508 : decode cL_isRefused 508 = .ok (.goto 11, 3) := by decide +kernel
theorem dL_isRefused_511 : decode cL_isRefused 511 = .ok (.sipush 1001, 3) := by decide +kernel
theorem dL_isRefused_514 : decode cL_isRefused 514 = .ok (.iload_n 2, 1) := by decide +kernel
theorem dL_isRefused_515 : decode cL_isRefused 515 = .ok (.bipush 30, 2) := by decide +kernel
theorem dL_isRefused_517 : decode cL_isRefused 517 = .ok (.irem, 1) := by decide +kernel
theorem dL_isRefused_518 : decode cL_isRefused 518 = .ok (.iadd, 1) := by decide +kernel
theorem dL_isRefused_519 : decode cL_isRefused 519 = .ok (.sipush 5000, 3) := by decide +kernel
theorem dL_isRefused_522 : decode cL_isRefused 522 = .ok (.iconst 0, 1) := by decide +kernel
theorem dL_isRefused_523 : decode cL_isRefused 523 = .ok (.invokestatic 146, 3) := by decide +kernel
theorem dL_isRefused_526 : decode cL_isRefused 526 = .ok (.ifCond .eq 336, 3) := by decide +kernel
theorem dL_isRefused_529 : decode cL_isRefused 529 = .ok (.aload_n 0, 1) := by decide +kernel
theorem dL_isRefused_530 : decode cL_isRefused 530 = .ok (.bipush 13, 2) := by decide +kernel
theorem dL_isRefused_532 : decode cL_isRefused 532 = .ok (.iconst 5, 1) := by decide +kernel
theorem dL_isRefused_533 : decode cL_isRefused 533 = .ok (.iload_n 3, 1) := by decide +kernel
theorem dL_isRefused_534 : decode cL_isRefused 534 = .ok (.ifCond .eq 15, 3) := by decide +kernel
theorem dL_isRefused_537 : decode cL_isRefused 537 = .ok (.aload_n 0, 1) := by decide +kernel
theorem dL_isRefused_538 : decode cL_isRefused 538 = .ok (.invokevirtual 127, 3) := by decide +kernel
theorem dL_isRefused_541 : decode cL_isRefused 541 = .ok (.iload_n 2, 1) := by decide +kernel
theorem dL_isRefused_542 : decode cL_isRefused 542 = .ok (.bipush 30, 2) := by decide +kernel
theorem dL_isRefused_544 : decode cL_isRefused 544 = .ok (.irem, 1) := by decide +kernel
theorem dL_isRefused_545 : decode cL_isRefused 545 = .ok (.isub, 1) := by decide +kernel
theorem dL_isRefused_546 : decode cL_isRefused 546 = .ok (.goto 6, 3) := by decide +kernel
theorem dL_isRefused_549 : decode cL_isRefused 549 = .ok (.sipush 5001, 3) := by decide +kernel
theorem dL_isRefused_552 : decode cL_isRefused 552 = .ok (.iconst 0, 1) := by decide +kernel
theorem dL_isRefused_553 : decode cL_isRefused 553 = .ok (.invokestatic 146, 3) := by decide +kernel
theorem dL_isRefused_556 : decode cL_isRefused 556 = .ok (.ifCond .eq 306, 3) := by decide +kernel
theorem dL_isRefused_559 : decode cL_isRefused 559 = .ok (.aload_n 0, 1) := by decide +kernel
theorem dL_isRefused_560 : decode cL_isRefused 560 = .ok (.bipush 14, 2) := by decide +kernel
theorem dL_isRefused_562 : decode cL_isRefused 562 = .ok (.iload 5, 2) := by decide +kernel
theorem dL_isRefused_564 : decode cL_isRefused 564 = .ok (.iconst 0, 1) := by decide +kernel
theorem dL_isRefused_565 : decode cL_isRefused 565 = .ok (.iconst 0, 1) := by decide +kernel
theorem dL_isRefused_566 : decode cL_isRefused 566 = .ok (.invokestatic 141, 3) := by decide +kernel
theorem dL_isRefused_569 : decode cL_isRefused 569 = .ok (.ifCond .eq 293, 3) := by decide +kernel
theorem dL_isRefused_572 : decode cL_isRefused 572 = .ok (.aload_n 0, 1) := by decide +kernel
theorem dL_isRefused_573 : decode cL_isRefused 573 = .ok (.bipush 15, 2) := by decide +kernel
theorem dL_isRefused_575 : decode cL_isRefused 575 = .ok (.iload 5, 2) := by decide +kernel
theorem dL_isRefused_577 : decode cL_isRefused 577 = .ok (.iconst 0, 1) := by decide +kernel
theorem dL_isRefused_578 : decode cL_isRefused 578 = .ok (.iconst 0, 1) := by decide +kernel
theorem dL_isRefused_579 : decode cL_isRefused 579 = .ok (.invokestatic 141, 3) := by decide +kernel
theorem dL_isRefused_582 : decode cL_isRefused 582 = .ok (.ifCond .eq 280, 3) := by decide +kernel
theorem dL_isRefused_585 : decode cL_isRefused 585 = .ok (.aload_n 0, 1) := by decide +kernel
theorem dL_isRefused_586 : decode cL_isRefused 586 = .ok (.bipush 16, 2) := by decide +kernel
theorem dL_isRefused_588 : decode cL_isRefused 588 = .ok (.iload 5, 2) := by decide +kernel
theorem dL_isRefused_590 : decode cL_isRefused 590 = .ok (.iconst 0, 1) := by decide +kernel
theorem dL_isRefused_591 : decode cL_isRefused 591 = .ok (.iconst 0, 1) := by decide +kernel
theorem dL_isRefused_592 : decode cL_isRefused 592 = .ok (.invokestatic 141, 3) := by decide +kernel
theorem dL_isRefused_595 : decode cL_isRefused 595 = .ok (.ifCond .eq 267, 3) := by decide +kernel
theorem dL_isRefused_598 : decode cL_isRefused 598 = .ok (.aload_n 0, 1) := by decide +kernel
theorem dL_isRefused_599 : decode cL_isRefused 599 = .ok (.bipush 17, 2) := by decide +kernel
theorem dL_isRefused_601 : decode cL_isRefused 601 = .ok (.iload 6, 2) := by decide +kernel
theorem dL_isRefused_603 : decode cL_isRefused 603 = .ok (.iconst 0, 1) := by decide +kernel
theorem dL_isRefused_604 : decode cL_isRefused 604 = .ok (.iconst (-1), 1) := by decide +kernel
theorem dL_isRefused_605 : decode cL_isRefused 605 = .ok (.invokestatic 141, 3) := by decide +kernel
theorem dL_isRefused_608 : decode cL_isRefused 608 = .ok (.ifCond .eq 254, 3) := by decide +kernel
theorem dL_isRefused_611 : decode cL_isRefused 611 = .ok (.aload_n 0, 1) := by decide +kernel
theorem dL_isRefused_612 : decode cL_isRefused 612 = .ok (.bipush 18, 2) := by decide +kernel
theorem dL_isRefused_614 : decode cL_isRefused 614 = .ok (.iload 6, 2) := by decide +kernel
theorem dL_isRefused_616 : decode cL_isRefused 616 = .ok (.iconst 0, 1) := by decide +kernel
theorem dL_isRefused_617 : decode cL_isRefused 617 = .ok (.iconst 0, 1) := by decide +kernel
theorem dL_isRefused_618 : decode cL_isRefused 618 = .ok (.invokestatic 141, 3) := by decide +kernel
theorem dL_isRefused_621 : decode cL_isRefused 621 = .ok (.ifCond .eq 241, 3) := by decide +kernel
theorem dL_isRefused_624 : decode cL_isRefused 624 = .ok (.aload_n 0, 1) := by decide +kernel
theorem dL_isRefused_625 : decode cL_isRefused 625 = .ok (.bipush 19, 2) := by decide +kernel
theorem dL_isRefused_627 : decode cL_isRefused 627 = .ok (.iload 4, 2) := by decide +kernel
theorem dL_isRefused_629 : decode cL_isRefused 629 = .ok (.iconst (-1), 1) := by decide +kernel
theorem dL_isRefused_630 : decode cL_isRefused 630 = .ok (.iconst 0, 1) := by decide +kernel
theorem dL_isRefused_631 : decode cL_isRefused 631 = .ok (.invokestatic 141, 3) := by decide +kernel
theorem dL_isRefused_634 : decode cL_isRefused 634 = .ok (.ifCond .eq 228, 3) := by decide +kernel
theorem dL_isRefused_637 : decode cL_isRefused 637 = .ok (.aload_n 0, 1) := by decide +kernel
theorem dL_isRefused_638 : decode cL_isRefused 638 = .ok (.bipush 19, 2) := by decide +kernel
theorem dL_isRefused_640 : decode cL_isRefused 640 = .ok (.iload_n 2, 1) := by decide +kernel
theorem dL_isRefused_641 : decode cL_isRefused 641 = .ok (.bipush 40, 2) := by decide +kernel
theorem dL_isRefused_643 : decode cL_isRefused 643 = .ok (.irem, 1) := by decide +kernel
theorem dL_isRefused_644 : decode cL_isRefused 644 = .ok (.iload_n 3, 1) := by decide +kernel
theorem dL_isRefused_645 : decode cL_isRefused 645 = .ok (.ifCond .eq 12, 3) := by decide +kernel
theorem dL_isRefused_648 : decode cL_isRefused 648 = .ok (.iconst (-1), 1) := by decide +kernel
theorem dL_isRefused_649 : decode cL_isRefused 649 = .ok (.iload_n 2, 1) := by decide +kernel
theorem dL_isRefused_650 : decode cL_isRefused 650 = .ok (.bipush 30, 2) := by decide +kernel
theorem dL_isRefused_652 : decode cL_isRefused 652 = .ok (.irem, 1) := by decide +kernel
theorem dL_isRefused_653 : decode cL_isRefused 653 = .ok (.isub, 1) := by decide +kernel
theorem dL_isRefused_654 : decode cL_isRefused 654 = .ok (.goto 5, 3) := by decide +kernel
theorem dL_isRefused_657 : decode cL_isRefused 657 = .ok (.bipush 101, 2) := by decide +kernel
theorem dL_isRefused_659 : decode cL_isRefused 659 = .ok (.iconst 0, 1) := by decide +kernel
theorem dL_isRefused_660 : decode cL_isRefused 660 = .ok (.invokestatic 146, 3) := by decide +kernel
theorem dL_isRefused_663 : decode cL_isRefused 663 = .ok (.ifCond .eq 199, 3) := by decide +kernel
theorem dL_isRefused_666 : decode cL_isRefused 666 = .ok (.aload_n 0, 1) := by decide +kernel
theorem dL_isRefused_667 : decode cL_isRefused 667 = .ok (.bipush 20, 2) := by decide +kernel
theorem dL_isRefused_669 : decode cL_isRefused 669 = .ok (.iload 4, 2) := by decide +kernel
theorem dL_isRefused_671 : decode cL_isRefused 671 = .ok (.iconst 0, 1) := by decide +kernel
theorem dL_isRefused_672 : decode cL_isRefused 672 = .ok (.iconst 0, 1) := by decide +kernel
theorem dL_isRefused_673 : decode cL_isRefused 673 = .ok (.invokestatic 141, 3) := by decide +kernel
theorem dL_isRefused_676 : decode cL_isRefused 676 = .ok (.ifCond .eq 186, 3) := by decide +kernel
theorem dL_isRefused_679 : decode cL_isRefused 679 = .ok (.aload_n 0, 1) := by decide +kernel
theorem dL_isRefused_680 : decode cL_isRefused 680 = .ok (.bipush 21, 2) := by decide +kernel
theorem dL_isRefused_682 : decode cL_isRefused 682 = .ok (.iload 6, 2) := by decide +kernel
theorem dL_isRefused_684 : decode cL_isRefused 684 = .ok (.bipush 9, 2) := by decide +kernel
theorem dL_isRefused_686 : decode cL_isRefused 686 = .ok (.iconst 0, 1) := by decide +kernel
theorem dL_isRefused_687 : decode cL_isRefused 687 = .ok (.invokestatic 141, 3) := by decide +kernel
theorem dL_isRefused_690 : decode cL_isRefused 690 = .ok (.ifCond .eq 172, 3) := by decide +kernel
theorem dL_isRefused_693 : decode cL_isRefused 693 = .ok (.aload_n 0, 1) := by decide +kernel
theorem dL_isRefused_694 : decode cL_isRefused 694 = .ok (.bipush 22, 2) := by decide +kernel
theorem dL_isRefused_696 : decode cL_isRefused 696 = .ok (.iload 5, 2) := by decide +kernel
theorem dL_isRefused_698 : decode cL_isRefused 698 = .ok (.bipush 9, 2) := by decide +kernel
theorem dL_isRefused_700 : decode cL_isRefused 700 = .ok (.iconst 0, 1) := by decide +kernel
theorem dL_isRefused_701 : decode cL_isRefused 701 = .ok (.invokestatic 141, 3) := by decide +kernel
theorem dL_isRefused_704 : decode cL_isRefused 704 = .ok (.ifCond .eq 158, 3) := by decide +kernel
theorem dL_isRefused_707 : decode cL_isRefused 707 = .ok (.aload_n 0, 1) := by decide +kernel
theorem dL_isRefused_708 : decode cL_isRefused 708 = .ok (.bipush 23, 2) := by decide +kernel
theorem dL_isRefused_710 : decode cL_isRefused 710 = .ok (.iload_n 3, 1) := by decide +kernel
theorem dL_isRefused_711 : decode cL_isRefused 711 = .ok (.ifCond .eq 12, 3) := by decide +kernel
theorem dL_isRefused_714 : decode cL_isRefused 714 = .ok (.iconst (-1), 1) := by decide +kernel
theorem dL_isRefused_715 : decode cL_isRefused 715 = .ok (.iload_n 2, 1) := by decide +kernel
theorem dL_isRefused_716 : decode cL_isRefused 716 = .ok (.bipush 30, 2) := by decide +kernel
theorem dL_isRefused_718 : decode cL_isRefused 718 = .ok (.irem, 1) := by decide +kernel
theorem dL_isRefused_719 : decode cL_isRefused 719 = .ok (.isub, 1) := by decide +kernel
theorem dL_isRefused_720 : decode cL_isRefused 720 = .ok (.goto 11, 3) := by decide +kernel
theorem dL_isRefused_723 : decode cL_isRefused 723 = .ok (.aload_n 1, 1) := by decide +kernel
theorem dL_isRefused_724 : decode cL_isRefused 724 = .ok (.iconst 2, 1) := by decide +kernel
theorem dL_isRefused_725 : decode cL_isRefused 725 = .ok (.iaload, 1) := by decide +kernel
theorem dL_isRefused_726 : decode cL_isRefused 726 = .ok (.iload_n 2, 1) := by decide +kernel
theorem dL_isRefused_727 : decode cL_isRefused 727 = .ok (.bipush 30, 2) := by decide +kernel
theorem dL_isRefused_729 : decode cL_isRefused 729 = .ok (.irem, 1) := by decide +kernel
theorem dL_isRefused_730 : decode cL_isRefused 730 = .ok (.iadd, 1) := by decide +kernel
theorem dL_isRefused_731 : decode cL_isRefused 731 = .ok (.iconst 0, 1) := by decide +kernel
theorem dL_isRefused_732 : decode cL_isRefused 732 = .ok (.iconst 0, 1) := by decide +kernel
theorem dL_isRefused_733 : decode cL_isRefused 733 = .ok (.invokestatic 141, 3) := by decide +kernel
theorem dL_isRefused_736 : decode cL_isRefused 736 = .ok (.ifCond .eq 126, 3) := by decide +kernel
theorem dL_isRefused_739 : decode cL_isRefused 739 = .ok (.aload_n 0, 1) := by decide +kernel
theorem dL_isRefused_740 : decode cL_isRefused 740 = .ok (.bipush 24, 2) := by decide +kernel
theorem dL_isRefused_742 : decode cL_isRefused 742 = .ok (.iload_n 3, 1) := by decide +kernel
theorem dL_isRefused_743 : decode cL_isRefused 743 = .ok (.ifCond .eq 12, 3) := by decide +kernel
theorem dL_isRefused_746 : decode cL_isRefused 746 = .ok (.iconst (-1), 1) := by decide +kernel
theorem dL_isRefused_747 : decode cL_isRefused 747 = .ok (.iload_n 2, 1) := by decide +kernel
theorem dL_isRefused_748 : decode cL_isRefused 748 = .ok (.bipush 30, 2) := by decide +kernel
theorem dL_isRefused_750 : decode cL_isRefused 750 = .ok (.irem, 1) := by decide +kernel
theorem dL_isRefused_751 : decode cL_isRefused 751 = .ok (.isub, 1) := by decide +kernel
theorem dL_isRefused_752 : decode cL_isRefused 752 = .ok (.goto 4, 3) := by decide +kernel
theorem dL_isRefused_755 : decode cL_isRefused 755 = .ok (.iconst 5, 1) := by decide +kernel
theorem dL_isRefused_756 : decode cL_isRefused 756 = .ok (.iconst 0, 1) := by decide +kernel
theorem dL_isRefused_757 : decode cL_isRefused 757 = .ok (.iconst 0, 1) := by decide +kernel
theorem dL_isRefused_758 : decode cL_isRefused 758 = .ok (.invokestatic 146, 3) := by decide +kernel
theorem dL_isRefused_761 : decode cL_isRefused 761 = .ok (.ifCond .eq 101, 3) := by decide +kernel
theorem dL_isRefused_764 : decode cL_isRefused 764 = .ok (.aload_n 0, 1) := by decide +kernel
theorem dL_isRefused_765 : decode cL_isRefused 765 = .ok (.bipush 25, 2) := by decide +kernel
theorem dL_isRefused_767 : decode cL_isRefused 767 = .ok (.iload_n 3, 1) := by decide +kernel
theorem dL_isRefused_768 : decode cL_isRefused 768 = .ok (.ifCond .eq 7, 3) := by decide +kernel
theorem dL_isRefused_771 : decode cL_isRefused 771 = .ok (.iconst (-1), 1) := by decide +kernel
theorem dL_isRefused_772 : decode cL_isRefused 772 = .ok (.goto 10, 3) := by decide +kernel
theorem dL_isRefused_775 : decode cL_isRefused 775 = .ok (.bipush 6, 2) := by decide +kernel
theorem dL_isRefused_777 : decode cL_isRefused 777 = .ok (.iload_n 2, 1) := by decide +kernel
theorem dL_isRefused_778 : decode cL_isRefused 778 = .ok (.bipush 30, 2) := by decide +kernel
theorem dL_isRefused_780 : decode cL_isRefused 780 = .ok (.irem, 1) := by decide +kernel
theorem dL_isRefused_781 : decode cL_isRefused 781 = .ok (.iadd, 1) := by decide +kernel
theorem dL_isRefused_782 : decode cL_isRefused 782 = .ok (.iconst 0, 1) := by decide +kernel
theorem dL_isRefused_783 : decode cL_isRefused 783 = .ok (.iconst 0, 1) := by decide +kernel
theorem dL_isRefused_784 : decode cL_isRefused 784 = .ok (.invokestatic 146, 3) := by decide +kernel
theorem dL_isRefused_787 : decode cL_isRefused 787 = .ok (.ifCond .eq 75, 3) := by decide +kernel
theorem dL_isRefused_790 : decode cL_isRefused 790 = .ok (.aload_n 0, 1) := by decide +kernel
theorem dL_isRefused_791 : decode cL_isRefused 791 = .ok (.bipush 26, 2) := by decide +kernel
theorem dL_isRefused_793 : decode cL_isRefused 793 = .ok (.iload 4, 2) := by decide +kernel
theorem dL_isRefused_795 : decode cL_isRefused 795 = .ok (.iconst 0, 1) := by decide +kernel
theorem dL_isRefused_796 : decode cL_isRefused 796 = .ok (.iconst 0, 1) := by decide +kernel
theorem dL_isRefused_797 : decode cL_isRefused 797 = .ok (.invokestatic 141, 3) := by decide +kernel
theorem dL_isRefused_800 : decode cL_isRefused 800 = .ok (.ifCond .eq 62, 3) := by decide +kernel
theorem dL_isRefused_803 : decode cL_isRefused 803 = .ok (.aload_n 0, 1) := by decide +kernel
theorem dL_isRefused_804 : decode cL_isRefused 804 = .ok (.bipush 27, 2) := by decide +kernel
theorem dL_isRefused_806 : decode cL_isRefused 806 = .ok (.iload 6, 2) := by decide +kernel
theorem dL_isRefused_808 : decode cL_isRefused 808 = .ok (.bipush 9, 2) := by decide +kernel
theorem dL_isRefused_810 : decode cL_isRefused 810 = .ok (.iconst 0, 1) := by decide +kernel
theorem dL_isRefused_811 : decode cL_isRefused 811 = .ok (.invokestatic 141, 3) := by decide +kernel
theorem dL_isRefused_814 : decode cL_isRefused 814 = .ok (.ifCond .eq 48, 3) := by decide +kernel
theorem dL_isRefused_817 : decode cL_isRefused 817 = .ok (.aload_n 0, 1) := by decide +kernel
theorem dL_isRefused_818 : decode cL_isRefused 818 = .ok (.bipush 28, 2) := by decide +kernel
theorem dL_isRefused_820 : decode cL_isRefused 820 = .ok (.iload 6, 2) := by decide +kernel
theorem dL_isRefused_822 : decode cL_isRefused 822 = .ok (.bipush 9, 2) := by decide +kernel
theorem dL_isRefused_824 : decode cL_isRefused 824 = .ok (.iconst 0, 1) := by decide +kernel
theorem dL_isRefused_825 : decode cL_isRefused 825 = .ok (.invokestatic 141, 3) := by decide +kernel
theorem dL_isRefused_828 : decode cL_isRefused 828 = .ok (.ifCond .eq 34, 3) := by decide +kernel
theorem dL_isRefused_831 : decode cL_isRefused 831 = .ok (.aload_n 0, 1) := by decide +kernel
theorem dL_isRefused_832 : decode cL_isRefused 832 = .ok (.invokevirtual 127, 3) := by decide +kernel
theorem dL_isRefused_835 : decode cL_isRefused 835 = .ok (.ifCond .ne 9, 3) := by decide +kernel
theorem dL_isRefused_838 : decode cL_isRefused 838 = .ok (.aload_n 1, 1) := by decide +kernel
theorem dL_isRefused_839 : decode cL_isRefused 839 = .ok (.iconst 4, 1) := by decide +kernel
theorem dL_isRefused_840 : decode cL_isRefused 840 = .ok (.iaload, 1) := by decide +kernel
theorem dL_isRefused_841 : decode cL_isRefused 841 = .ok (.ifCond .eq 17, 3) := by decide +kernel
theorem dL_isRefused_844 : decode cL_isRefused 844 = .ok (.aload_n 0, 1) := by decide +kernel
theorem dL_isRefused_845 : decode cL_isRefused 845 = .ok (.iconst 0, 1) := by decide +kernel
theorem dL_isRefused_846 : decode cL_isRefused 846 = .ok (.iload_n 2, 1) := by decide +kernel
theorem dL_isRefused_847 : decode cL_isRefused 847 = .ok (.bipush 40, 2) := by decide +kernel
theorem dL_isRefused_849 : decode cL_isRefused 849 = .ok (.irem, 1) := by decide +kernel
theorem dL_isRefused_850 : decode cL_isRefused 850 = .ok (.iconst 5, 1) := by decide +kernel
theorem dL_isRefused_851 : decode cL_isRefused 851 = .ok (.iconst 5, 1) := by decide +kernel
theorem dL_isRefused_852 : decode cL_isRefused 852 = .ok (.invokestatic 149, 3) := by decide +kernel
theorem dL_isRefused_855 : decode cL_isRefused 855 = .ok (.ifCond .eq 7, 3) := by decide +kernel
theorem dL_isRefused_858 : decode cL_isRefused 858 = .ok (.iconst 1, 1) := by decide +kernel
theorem dL_isRefused_859 : decode cL_isRefused 859 = .ok (.goto 4, 3) := by decide +kernel
theorem dL_isRefused_862 : decode cL_isRefused 862 = .ok (.iconst 0, 1) := by decide +kernel
theorem dL_isRefused_863 : decode cL_isRefused 863 = .ok (.istore 10, 2) := by decide +kernel
theorem dL_isRefused_865 : decode cL_isRefused 865 = .ok (.iconst 0, 1) := by decide +kernel
theorem dL_isRefused_866 : decode cL_isRefused 866 = .ok (.istore 11, 2) := by decide +kernel
theorem dL_isRefused_868 : decode cL_isRefused 868 = .ok (.iload 11, 2) := by decide +kernel
theorem dL_isRefused_870 : decode cL_isRefused 870 = .ok (.aload_n 1, 1) := by decide +kernel
theorem dL_isRefused_871 : decode cL_isRefused 871 = .ok (.iconst 0, 1) := by decide +kernel
theorem dL_isRefused_872 : decode cL_isRefused 872 = .ok (.iaload, 1) := by decide +kernel
theorem dL_isRefused_873 : decode cL_isRefused 873 = .ok (.if_icmp .ge 482, 3) := by decide +kernel
theorem dL_isRefused_876 : decode cL_isRefused 876 = .ok (.iload 10, 2) := by decide +kernel
theorem dL_isRefused_878 : decode cL_isRefused 878 = .ok (.ifCond .eq 477, 3) := by decide +kernel
theorem dL_isRefused_881 : decode cL_isRefused 881 = .ok (.aload_n 0, 1) := by decide +kernel
theorem dL_isRefused_882 : decode cL_isRefused 882 = .ok (.iload 11, 2) := by decide +kernel
theorem dL_isRefused_884 : decode cL_isRefused 884 = .ok (.iconst 4, 1) := by decide +kernel
theorem dL_isRefused_885 : decode cL_isRefused 885 = .ok (.invokevirtual 85, 3) := by decide +kernel
theorem dL_isRefused_888 : decode cL_isRefused 888 = .ok (.ifCond .ne 7, 3) := by decide +kernel
theorem dL_isRefused_891 : decode cL_isRefused 891 = .ok (.iconst 1, 1) := by decide +kernel
theorem dL_isRefused_892 : decode cL_isRefused 892 = .ok (.goto 4, 3) := by decide +kernel
theorem dL_isRefused_895 : decode cL_isRefused 895 = .ok (.iconst 0, 1) := by decide +kernel
theorem dL_isRefused_896 : decode cL_isRefused 896 = .ok (.istore 12, 2) := by decide +kernel
theorem dL_isRefused_898 : decode cL_isRefused 898 = .ok (.aload_n 0, 1) := by decide +kernel
theorem dL_isRefused_899 : decode cL_isRefused 899 = .ok (.iload 11, 2) := by decide +kernel
theorem dL_isRefused_901 : decode cL_isRefused 901 = .ok (.iconst 0, 1) := by decide +kernel
theorem dL_isRefused_902 : decode cL_isRefused 902 = .ok (.invokevirtual 85, 3) := by decide +kernel
theorem dL_isRefused_905 : decode cL_isRefused 905 = .ok (.aload_n 0, 1) := by decide +kernel
theorem dL_isRefused_906 : decode cL_isRefused 906 = .ok (.iload 11, 2) := by decide +kernel
theorem dL_isRefused_908 : decode cL_isRefused 908 = .ok (.iconst 1, 1) := by decide +kernel
theorem dL_isRefused_909 : decode cL_isRefused 909 = .ok (.invokevirtual 85, 3) := by decide +kernel
theorem dL_isRefused_912 : decode cL_isRefused 912 = .ok (.iadd, 1) := by decide +kernel
theorem dL_isRefused_913 : decode cL_isRefused 913 = .ok (.istore 13, 2) := by decide +kernel
theorem dL_isRefused_915 : decode cL_isRefused 915 = .ok (.aload_n 0, 1) := by decide +kernel
theorem dL_isRefused_916 : decode cL_isRefused 916 = .ok (.iconst 5, 1) := by decide +kernel
theorem dL_isRefused_917 : decode cL_isRefused 917 = .ok (.iload 11, 2) := by decide +kernel
theorem dL_isRefused_919 : decode cL_isRefused 919 = .ok (.iload 4, 2) := by decide +kernel
theorem dL_isRefused_921 : decode cL_isRefused 921 = .ok (.iconst 1, 1) := by decide +kernel
theorem dL_isRefused_922 : decode cL_isRefused 922 = .ok (.invokestatic 141, 3) := by decide +kernel
theorem dL_isRefused_925 : decode cL_isRefused 925 = .ok (.ifCond .eq 421, 3) := by decide +kernel
theorem dL_isRefused_928 : decode cL_isRefused 928 = .ok (.aload_n 0, 1) := by decide +kernel
theorem dL_isRefused_929 : decode cL_isRefused 929 = .ok (.iconst 5, 1) := by decide +kernel
theorem dL_isRefused_930 : decode cL_isRefused 930 = .ok (.iload 11, 2) := by decide +kernel
theorem dL_isRefused_932 : decode cL_isRefused 932 = .ok (.bipush 36, 2) := by decide +kernel
theorem dL_isRefused_934 : decode cL_isRefused 934 = .ok (.iconst 5, 1) := by decide +kernel
theorem dL_isRefused_935 : decode cL_isRefused 935 = .ok (.invokestatic 141, 3) := by decide +kernel
theorem dL_isRefused_938 : decode cL_isRefused 938 = .ok (.ifCond .eq 408, 3) := by decide +kernel
theorem dL_isRefused_941 : decode cL_isRefused 941 = .ok (.aload_n 0, 1) := by decide +kernel
theorem dL_isRefused_942 : decode cL_isRefused 942 = .ok (.iconst 5, 1) := by decide +kernel
theorem dL_isRefused_943 : decode cL_isRefused 943 = .ok (.iload 11, 2) := by decide +kernel
theorem dL_isRefused_945 : decode cL_isRefused 945 = .ok (.iconst 5, 1) := by decide +kernel
theorem dL_isRefused_946 : decode cL_isRefused 946 = .ok (.iload_n 3, 1) := by decide +kernel
theorem dL_isRefused_947 : decode cL_isRefused 947 = .ok (.ifCond .eq 12, 3) := by decide +kernel
theorem dL_isRefused_950 : decode cL_isRefused 950 = .ok (.iconst 0, 1) := by decide +kernel
theorem dL_isRefused_951 : decode cL_isRefused 951 = .ok (.iload_n 2, 1) := by decide +kernel
theorem dL_isRefused_952 : decode cL_isRefused 952 = .ok (.bipush 30, 2) := by decide +kernel
theorem dL_isRefused_954 : decode cL_isRefused 954 = .ok (.irem, 1) := by decide +kernel
theorem dL_isRefused_955 : decode cL_isRefused 955 = .ok (.isub, 1) := by decide +kernel
theorem dL_isRefused_956 : decode cL_isRefused 956 = .ok (.goto 5, 3) := by decide +kernel
theorem dL_isRefused_959 : decode cL_isRefused 959 = .ok (.bipush 11, 2) := by decide +kernel
theorem dL_isRefused_961 : decode cL_isRefused 961 = .ok (.invokestatic 146, 3) := by decide +kernel
theorem dL_isRefused_964 : decode cL_isRefused 964 = .ok (.ifCond .eq 382, 3) := by decide +kernel
theorem dL_isRefused_967 : decode cL_isRefused 967 = .ok (.aload_n 0, 1) := by decide +kernel
theorem dL_isRefused_968 : decode cL_isRefused 968 = .ok (.bipush 6, 2) := by decide +kernel
theorem dL_isRefused_970 : decode cL_isRefused 970 = .ok (.iload 11, 2) := by decide +kernel
theorem dL_isRefused_972 : decode cL_isRefused 972 = .ok (.iload_n 3, 1) := by decide +kernel
theorem dL_isRefused_973 : decode cL_isRefused 973 = .ok (.ifCond .eq 7, 3) := by decide +kernel
theorem dL_isRefused_976 : decode cL_isRefused 976 = .ok (.iconst 0, 1) := by decide +kernel
theorem dL_isRefused_977 : decode cL_isRefused 977 = .ok (.goto 11, 3) := by decide +kernel
theorem dL_isRefused_980 : decode cL_isRefused 980 = .ok (.sipush 201, 3) := by decide +kernel
theorem dL_isRefused_983 : decode cL_isRefused 983 = .ok (.iload_n 2, 1) := by decide +kernel
theorem dL_isRefused_984 : decode cL_isRefused 984 = .ok (.bipush 30, 2) := by decide +kernel
theorem dL_isRefused_986 : decode cL_isRefused 986 = .ok (.irem, 1) := by decide +kernel
theorem dL_isRefused_987 : decode cL_isRefused 987 = .ok (.iadd, 1) := by decide +kernel
theorem dL_isRefused_988 : decode cL_isRefused 988 = .ok (.iconst 0, 1) := by decide +kernel
theorem dL_isRefused_989 : decode cL_isRefused 989 = .ok (.invokestatic 146, 3) := by decide +kernel
theorem dL_isRefused_992 : decode cL_isRefused 992 = .ok (.ifCond .eq 354, 3) := by decide +kernel
theorem dL_isRefused_995 : decode cL_isRefused 995 = .ok (.aload_n 0, 1) := by decide +kernel
theorem dL_isRefused_996 : decode cL_isRefused 996 = .ok (.bipush 7, 2) := by decide +kernel
theorem dL_isRefused_998 : decode cL_isRefused 998 = .ok (.iload 11, 2) := by decide +kernel
theorem dL_isRefused_1000 : decode cL_isRefused 1000 = .ok (.iload 4, 2) := by decide +kernel
theorem dL_isRefused_1002 : decode cL_isRefused 1002 = .ok (.iconst 0, 1) := by decide +kernel
theorem dL_isRefused_1003 : decode cL_isRefused 1003 = .ok (.invokestatic 141, 3) := by decide +kernel
theorem dL_isRefused_1006 : decode cL_isRefused 1006 = .ok (.ifCond .eq 340, 3) := by decide +kernel
theorem dL_isRefused_1009 : decode cL_isRefused 1009 = .ok (.aload_n 0, 1) := by decide +kernel
theorem dL_isRefused_1010 : decode cL_isRefused 1010 = .ok (.bipush 7, 2) := by decide +kernel
theorem dL_isRefused_1012 : decode cL_isRefused 1012 = .ok (.iload 11, 2) := by decide +kernel
theorem dL_isRefused_1014 : decode cL_isRefused 1014 = .ok (.iload_n 2, 1) := by decide +kernel
theorem dL_isRefused_1015 : decode cL_isRefused 1015 = .ok (.bipush 40, 2) := by decide +kernel
theorem dL_isRefused_1017 : decode cL_isRefused 1017 = .ok (.irem, 1) := by decide +kernel
theorem dL_isRefused_1018 : decode cL_isRefused 1018 = .ok (.iload 7, 2) := by decide +kernel
theorem dL_isRefused_1020 : decode cL_isRefused 1020 = .ok (.invokestatic 146, 3) := by decide +kernel
theorem dL_isRefused_1023 : decode cL_isRefused 1023 = .ok (.ifCond .eq 323, 3) := by decide +kernel
theorem dL_isRefused_1026 : decode cL_isRefused 1026 = .ok (.aload_n 0, 1) := by decide +kernel
theorem dL_isRefused_1027 : decode cL_isRefused 1027 = .ok (.bipush 9, 2) := by decide +kernel
theorem dL_isRefused_1029 : decode cL_isRefused 1029 = .ok (.iload 11, 2) := by decide +kernel
theorem dL_isRefused_1031 : decode cL_isRefused 1031 = .ok (.iload 4, 2) := by decide +kernel
theorem dL_isRefused_1033 : decode cL_isRefused 1033 = .ok (.iconst 1, 1) := by decide +kernel
theorem dL_isRefused_1034 : decode cL_isRefused 1034 = .ok (.invokestatic 141, 3) := by decide +kernel
theorem dL_isRefused_1037 : decode cL_isRefused 1037 = .ok (.ifCond .eq 309, 3) := by decide +kernel
theorem dL_isRefused_1040 : decode cL_isRefused 1040 = .ok (.aload_n 0, 1) := by decide +kernel
theorem dL_isRefused_1041 : decode cL_isRefused 1041 = .ok (.bipush 9, 2) := by decide +kernel
theorem dL_isRefused_1043 : decode cL_isRefused 1043 = .ok (.iload 11, 2) := by decide +kernel
theorem dL_isRefused_1045 : decode cL_isRefused 1045 = .ok (.iconst 0, 1) := by decide +kernel
theorem dL_isRefused_1046 : decode cL_isRefused 1046 = .ok (.iload_n 3, 1) := by decide +kernel
theorem dL_isRefused_1047 : decode cL_isRefused 1047 = .ok (.ifCond .eq 12, 3) := by decide +kernel
theorem dL_isRefused_1050 : decode cL_isRefused 1050 = .ok (.iconst 0, 1) := by decide +kernel
theorem dL_isRefused_1051 : decode cL_isRefused 1051 = .ok (.iload_n 2, 1) := by decide +kernel
theorem dL_isRefused_1052 : decode cL_isRefused 1052 = .ok (.bipush 30, 2) := by decide +kernel
theorem dL_isRefused_1054 : decode cL_isRefused 1054 = .ok (.irem, 1) := by decide +kernel
theorem dL_isRefused_1055 : decode cL_isRefused 1055 = .ok (.isub, 1) := by decide +kernel
theorem dL_isRefused_1056 : decode cL_isRefused 1056 = .ok (.goto 6, 3) := by decide +kernel
theorem dL_isRefused_1059 : decode cL_isRefused 1059 = .ok (.sipush 10001, 3) := by decide +kernel
theorem dL_isRefused_1062 : decode cL_isRefused 1062 = .ok (.invokestatic 146, 3) := by decide +kernel
theorem dL_isRefused_1065 : decode cL_isRefused 1065 = .ok (.ifCond .eq 281, 3) := by decide +kernel
theorem dL_isRefused_1068 : decode cL_isRefused 1068 = .ok (.aload_n 0, 1) := by decide +kernel
theorem dL_isRefused_1069 : decode cL_isRefused 1069 = .ok (.bipush 10, 2) := by decide +kernel
theorem dL_isRefused_1071 : decode cL_isRefused 1071 = .ok (.iload 11, 2) := by decide +kernel
theorem dL_isRefused_1073 : decode cL_isRefused 1073 = .ok (.iload_n 3, 1) := by decide +kernel
theorem dL_isRefused_1074 : decode cL_isRefused 1074 = .ok (.ifCond .eq 12, 3) := by decide +kernel
theorem dL_isRefused_1077 : decode cL_isRefused 1077 = .ok (.iconst 0, 1) := by decide +kernel
theorem dL_isRefused_1078 : decode cL_isRefused 1078 = .ok (.iload_n 2, 1) := by decide +kernel
theorem dL_isRefused_1079 : decode cL_isRefused 1079 = .ok (.bipush 30, 2) := by decide +kernel
theorem dL_isRefused_1081 : decode cL_isRefused 1081 = .ok (.irem, 1) := by decide +kernel
theorem dL_isRefused_1082 : decode cL_isRefused 1082 = .ok (.isub, 1) := by decide +kernel
theorem dL_isRefused_1083 : decode cL_isRefused 1083 = .ok (.goto 6, 3) := by decide +kernel
theorem dL_isRefused_1086 : decode cL_isRefused 1086 = .ok (.sipush 10001, 3) := by decide +kernel
theorem dL_isRefused_1089 : decode cL_isRefused 1089 = .ok (.iconst 0, 1) := by decide +kernel
theorem dL_isRefused_1090 : decode cL_isRefused 1090 = .ok (.invokestatic 146, 3) := by decide +kernel
theorem dL_isRefused_1093 : decode cL_isRefused 1093 = .ok (.ifCond .eq 253, 3) := by decide +kernel
theorem dL_isRefused_1096 : decode cL_isRefused 1096 = .ok (.aload_n 0, 1) := by decide +kernel
theorem dL_isRefused_1097 : decode cL_isRefused 1097 = .ok (.bipush 11, 2) := by decide +kernel
theorem dL_isRefused_1099 : decode cL_isRefused 1099 = .ok (.iload 11, 2) := by decide +kernel
theorem dL_isRefused_1101 : decode cL_isRefused 1101 = .ok (.iload_n 3, 1) := by decide +kernel
theorem dL_isRefused_1102 : decode cL_isRefused 1102 = .ok (.ifCond .eq 7, 3) := by decide +kernel
theorem dL_isRefused_1105 : decode cL_isRefused 1105 = .ok (.iconst 0, 1) := by decide +kernel
theorem dL_isRefused_1106 : decode cL_isRefused 1106 = .ok (.goto 10, 3) := by decide +kernel
theorem dL_isRefused_1109 : decode cL_isRefused 1109 = .ok (.ldc 152, 2) := by decide +kernel
theorem dL_isRefused_1111 : decode cL_isRefused 1111 = .ok (.iload_n 2, 1) := by decide +kernel
theorem dL_isRefused_1112 : decode cL_isRefused 1112 = .ok (.bipush 30, 2) := by decide +kernel
theorem dL_isRefused_1114 : decode cL_isRefused 1114 = .ok (.irem, 1) := by decide +kernel
theorem dL_isRefused_1115 : decode cL_isRefused 1115 = .ok (.iadd, 1) := by decide +kernel
theorem dL_isRefused_1116 : decode cL_isRefused 1116 = .ok (.iconst 0, 1) := by decide +kernel
theorem dL_isRefused_1117 : decode cL_isRefused 1117 = .ok (.invokestatic 146, 3) := by decide +kernel
theorem dL_isRefused_1120 : decode cL_isRefused 1120 = .ok (.ifCond .eq 226, 3) := by decide +kernel
theorem dL_isRefused_1123 : decode cL_isRefused 1123 = .ok (.aload_n 0, 1) := by decide +kernel
theorem dL_isRefused_1124 : decode cL_isRefused 1124 = .ok (.bipush 14, 2) := by decide +kernel
theorem dL_isRefused_1126 : decode cL_isRefused 1126 = .ok (.iload 11, 2) := by decide +kernel
theorem dL_isRefused_1128 : decode cL_isRefused 1128 = .ok (.iload_n 3, 1) := by decide +kernel
theorem dL_isRefused_1129 : decode cL_isRefused 1129 = .ok (.ifCond .eq 12, 3) := by decide +kernel
theorem dL_isRefused_1132 : decode cL_isRefused 1132 = .ok (.iconst 0, 1) := by decide +kernel
theorem dL_isRefused_1133 : decode cL_isRefused 1133 = .ok (.iload_n 2, 1) := by decide +kernel
theorem dL_isRefused_1134 : decode cL_isRefused 1134 = .ok (.bipush 30, 2) := by decide +kernel
theorem dL_isRefused_1136 : decode cL_isRefused 1136 = .ok (.irem, 1) := by decide +kernel
theorem dL_isRefused_1137 : decode cL_isRefused 1137 = .ok (.isub, 1) := by decide +kernel
theorem dL_isRefused_1138 : decode cL_isRefused 1138 = .ok (.goto 6, 3) := by decide +kernel
theorem dL_isRefused_1141 : decode cL_isRefused 1141 = .ok (.sipush 1001, 3) := by decide +kernel
theorem dL_isRefused_1144 : decode cL_isRefused 1144 = .ok (.iconst 0, 1) := by decide +kernel
theorem dL_isRefused_1145 : decode cL_isRefused 1145 = .ok (.invokestatic 146, 3) := by decide +kernel
theorem dL_isRefused_1148 : decode cL_isRefused 1148 = .ok (.ifCond .eq 198, 3) := by decide +kernel
theorem dL_isRefused_1151 : decode cL_isRefused 1151 = .ok (.aload_n 0, 1) := by decide +kernel
theorem dL_isRefused_1152 : decode cL_isRefused 1152 = .ok (.bipush 15, 2) := by decide +kernel
theorem dL_isRefused_1154 : decode cL_isRefused 1154 = .ok (.iload 11, 2) := by decide +kernel
theorem dL_isRefused_1156 : decode cL_isRefused 1156 = .ok (.iload 11, 2) := by decide +kernel
theorem dL_isRefused_1158 : decode cL_isRefused 1158 = .ok (.iconst 5, 1) := by decide +kernel
theorem dL_isRefused_1159 : decode cL_isRefused 1159 = .ok (.invokestatic 146, 3) := by decide +kernel
theorem dL_isRefused_1162 : decode cL_isRefused 1162 = .ok (.ifCond .eq 184, 3) := by decide +kernel
theorem dL_isRefused_1165 : decode cL_isRefused 1165 = .ok (.aload_n 0, 1) := by decide +kernel
theorem dL_isRefused_1166 : decode cL_isRefused 1166 = .ok (.bipush 15, 2) := by decide +kernel
theorem dL_isRefused_1168 : decode cL_isRefused 1168 = .ok (.iload 11, 2) := by decide +kernel
theorem dL_isRefused_1170 : decode cL_isRefused 1170 = .ok (.iload 5, 2) := by decide +kernel
theorem dL_isRefused_1172 : decode cL_isRefused 1172 = .ok (.iconst 5, 1) := by decide +kernel
theorem dL_isRefused_1173 : decode cL_isRefused 1173 = .ok (.invokestatic 141, 3) := by decide +kernel
theorem dL_isRefused_1176 : decode cL_isRefused 1176 = .ok (.ifCond .eq 170, 3) := by decide +kernel
theorem dL_isRefused_1179 : decode cL_isRefused 1179 = .ok (.aload_n 0, 1) := by decide +kernel
theorem dL_isRefused_1180 : decode cL_isRefused 1180 = .ok (.bipush 22, 2) := by decide +kernel
theorem dL_isRefused_1182 : decode cL_isRefused 1182 = .ok (.iload 11, 2) := by decide +kernel
theorem dL_isRefused_1184 : decode cL_isRefused 1184 = .ok (.iload_n 3, 1) := by decide +kernel
theorem dL_isRefused_1185 : decode cL_isRefused 1185 = .ok (.ifCond .eq 12, 3) := by decide +kernel
theorem dL_isRefused_1188 : decode cL_isRefused 1188 = .ok (.iconst (-1), 1) := by decide +kernel
theorem dL_isRefused_1189 : decode cL_isRefused 1189 = .ok (.iload_n 2, 1) := by decide +kernel
theorem dL_isRefused_1190 : decode cL_isRefused 1190 = .ok (.bipush 30, 2) := by decide +kernel
theorem dL_isRefused_1192 : decode cL_isRefused 1192 = .ok (.irem, 1) := by decide +kernel
theorem dL_isRefused_1193 : decode cL_isRefused 1193 = .ok (.isub, 1) := by decide +kernel
theorem dL_isRefused_1194 : decode cL_isRefused 1194 = .ok (.goto 5, 3) := by decide +kernel
theorem dL_isRefused_1197 : decode cL_isRefused 1197 = .ok (.bipush 8, 2) := by decide +kernel
theorem dL_isRefused_1199 : decode cL_isRefused 1199 = .ok (.iconst 0, 1) := by decide +kernel
theorem dL_isRefused_1200 : decode cL_isRefused 1200 = .ok (.invokestatic 146, 3) := by decide +kernel
theorem dL_isRefused_1203 : decode cL_isRefused 1203 = .ok (.ifCond .eq 143, 3) := by decide +kernel
theorem dL_isRefused_1206 : decode cL_isRefused 1206 = .ok (.aload_n 0, 1) := by decide +kernel
theorem dL_isRefused_1207 : decode cL_isRefused 1207 = .ok (.bipush 16, 2) := by decide +kernel
theorem dL_isRefused_1209 : decode cL_isRefused 1209 = .ok (.iload 11, 2) := by decide +kernel
theorem dL_isRefused_1211 : decode cL_isRefused 1211 = .ok (.iload 11, 2) := by decide +kernel
theorem dL_isRefused_1213 : decode cL_isRefused 1213 = .ok (.iconst 0, 1) := by decide +kernel
theorem dL_isRefused_1214 : decode cL_isRefused 1214 = .ok (.invokestatic 149, 3) := by decide +kernel
theorem dL_isRefused_1217 : decode cL_isRefused 1217 = .ok (.ifCond .eq 129, 3) := by decide +kernel
theorem dL_isRefused_1220 : decode cL_isRefused 1220 = .ok (.aload_n 0, 1) := by decide +kernel
theorem dL_isRefused_1221 : decode cL_isRefused 1221 = .ok (.bipush 11, 2) := by decide +kernel
theorem dL_isRefused_1223 : decode cL_isRefused 1223 = .ok (.iload 11, 2) := by decide +kernel
theorem dL_isRefused_1225 : decode cL_isRefused 1225 = .ok (.iload 13, 2) := by decide +kernel
theorem dL_isRefused_1227 : decode cL_isRefused 1227 = .ok (.iconst 1, 1) := by decide +kernel
theorem dL_isRefused_1228 : decode cL_isRefused 1228 = .ok (.iadd, 1) := by decide +kernel
theorem dL_isRefused_1229 : decode cL_isRefused 1229 = .ok (.iconst 0, 1) := by decide +kernel
theorem dL_isRefused_1230 : decode cL_isRefused 1230 = .ok (.invokestatic 149, 3) := by decide +kernel
theorem dL_isRefused_1233 : decode cL_isRefused 1233 = .ok (.ifCond .eq 113, 3) := by decide +kernel
theorem dL_isRefused_1236 : decode cL_isRefused 1236 = .ok (.aload_n 0, 1) := by decide +kernel
theorem dL_isRefused_1237 : decode cL_isRefused 1237 = .ok (.iload 11, 2) := by decide +kernel
theorem dL_isRefused_1239 : decode cL_isRefused 1239 = .ok (.iconst 0, 1) := by decide +kernel
theorem dL_isRefused_1240 : decode cL_isRefused 1240 = .ok (.invokevirtual 85, 3) := by decide +kernel
theorem dL_isRefused_1243 : decode cL_isRefused 1243 = .ok (.sipush 9999, 3) := by decide +kernel
theorem dL_isRefused_1246 : decode cL_isRefused 1246 = .ok (.if_icmp .gt 24, 3) := by decide +kernel
theorem dL_isRefused_1249 : decode cL_isRefused 1249 = .ok (.aload_n 0, 1) := by decide +kernel
theorem dL_isRefused_1250 : decode cL_isRefused 1250 = .ok (.bipush 9, 2) := by decide +kernel
theorem dL_isRefused_1252 : decode cL_isRefused 1252 = .ok (.iload 11, 2) := by decide +kernel
theorem dL_isRefused_1254 : decode cL_isRefused 1254 = .ok (.iconst 5, 1) := by decide +kernel
theorem dL_isRefused_1255 : decode cL_isRefused 1255 = .ok (.aload_n 0, 1) := by decide +kernel
theorem dL_isRefused_1256 : decode cL_isRefused 1256 = .ok (.iload 11, 2) := by decide +kernel
theorem dL_isRefused_1258 : decode cL_isRefused 1258 = .ok (.iconst 0, 1) := by decide +kernel
theorem dL_isRefused_1259 : decode cL_isRefused 1259 = .ok (.invokevirtual 85, 3) := by decide +kernel
theorem dL_isRefused_1262 : decode cL_isRefused 1262 = .ok (.iconst 1, 1) := by decide +kernel
theorem dL_isRefused_1263 : decode cL_isRefused 1263 = .ok (.iadd, 1) := by decide +kernel
theorem dL_isRefused_1264 : decode cL_isRefused 1264 = .ok (.invokestatic 149, 3) := by decide +kernel
theorem dL_isRefused_1267 : decode cL_isRefused 1267 = .ok (.ifCond .eq 79, 3) := by decide +kernel
theorem dL_isRefused_1270 : decode cL_isRefused 1270 = .ok (.iload 12, 2) := by decide +kernel
theorem dL_isRefused_1272 : decode cL_isRefused 1272 = .ok (.ifCond .eq 70, 3) := by decide +kernel
theorem dL_isRefused_1275 : decode cL_isRefused 1275 = .ok (.aload_n 0, 1) := by decide +kernel
theorem dL_isRefused_1276 : decode cL_isRefused 1276 = .ok (.iconst 5, 1) := by decide +kernel
theorem dL_isRefused_1277 : decode cL_isRefused 1277 = .ok (.iload 11, 2) := by decide +kernel
theorem dL_isRefused_1279 : decode cL_isRefused 1279 = .ok (.iconst 0, 1) := by decide +kernel
theorem dL_isRefused_1280 : decode cL_isRefused 1280 = .ok (.iconst 1, 1) := by decide +kernel
theorem dL_isRefused_1281 : decode cL_isRefused 1281 = .ok (.invokestatic 149, 3) := by decide +kernel
theorem dL_isRefused_1284 : decode cL_isRefused 1284 = .ok (.ifCond .eq 62, 3) := by decide +kernel
theorem dL_isRefused_1287 : decode cL_isRefused 1287 = .ok (.aload_n 0, 1) := by decide +kernel
theorem dL_isRefused_1288 : decode cL_isRefused 1288 = .ok (.bipush 6, 2) := by decide +kernel
theorem dL_isRefused_1290 : decode cL_isRefused 1290 = .ok (.iload 11, 2) := by decide +kernel
theorem dL_isRefused_1292 : decode cL_isRefused 1292 = .ok (.iconst 5, 1) := by decide +kernel
theorem dL_isRefused_1293 : decode cL_isRefused 1293 = .ok (.iconst 0, 1) := by decide +kernel
theorem dL_isRefused_1294 : decode cL_isRefused 1294 = .ok (.invokestatic 149, 3) := by decide +kernel
theorem dL_isRefused_1297 : decode cL_isRefused 1297 = .ok (.ifCond .eq 49, 3) := by decide +kernel
theorem dL_isRefused_1300 : decode cL_isRefused 1300 = .ok (.aload_n 0, 1) := by decide +kernel
theorem dL_isRefused_1301 : decode cL_isRefused 1301 = .ok (.bipush 7, 2) := by decide +kernel
theorem dL_isRefused_1303 : decode cL_isRefused 1303 = .ok (.iload 11, 2) := by decide +kernel
theorem dL_isRefused_1305 : decode cL_isRefused 1305 = .ok (.iload_n 2, 1) := by decide +kernel
theorem dL_isRefused_1306 : decode cL_isRefused 1306 = .ok (.bipush 40, 2) := by decide +kernel
theorem dL_isRefused_1308 : decode cL_isRefused 1308 = .ok (.irem, 1) := by decide +kernel
theorem dL_isRefused_1309 : decode cL_isRefused 1309 = .ok (.iconst 0, 1) := by decide +kernel
theorem dL_isRefused_1310 : decode cL_isRefused 1310 = .ok (.invokestatic 149, 3) := by decide +kernel
theorem dL_isRefused_1313 : decode cL_isRefused 1313 = .ok (.ifCond .eq 33, 3) := by decide +kernel
theorem dL_isRefused_1316 : decode cL_isRefused 1316 = .ok (.aload_n 0, 1) := by decide +kernel
theorem dL_isRefused_1317 : decode cL_isRefused 1317 = .ok (.bipush 10, 2) := by decide +kernel
theorem dL_isRefused_1319 : decode cL_isRefused 1319 = .ok (.iload 11, 2) := by decide +kernel
theorem dL_isRefused_1321 : decode cL_isRefused 1321 = .ok (.iconst 5, 1) := by decide +kernel
theorem dL_isRefused_1322 : decode cL_isRefused 1322 = .ok (.iconst 0, 1) := by decide +kernel
theorem dL_isRefused_1323 : decode cL_isRefused 1323 = .ok (.invokestatic 149, 3) := by decide +kernel
theorem dL_isRefused_1326 : decode cL_isRefused 1326 = .ok (.ifCond .eq 20, 3) := by decide +kernel
theorem dL_isRefused_1329 : decode cL_isRefused 1329 = .ok (.aload_n 0, 1) := by decide +kernel
theorem dL_isRefused_1330 : decode cL_isRefused 1330 = .ok (.bipush 14, 2) := by decide +kernel
theorem dL_isRefused_1332 : decode cL_isRefused 1332 = .ok (.iload 11, 2) := by decide +kernel
theorem dL_isRefused_1334 : decode cL_isRefused 1334 = .ok (.iconst 1, 1) := by decide +kernel
theorem dL_isRefused_1335 : decode cL_isRefused 1335 = .ok (.iconst 0, 1) := by decide +kernel
theorem dL_isRefused_1336 : decode cL_isRefused 1336 = .ok (.invokestatic 149, 3) := by decide +kernel
theorem dL_isRefused_1339 : decode cL_isRefused 1339 = .ok (.ifCond .eq 7, 3) := by decide +kernel
theorem dL_isRefused_1342 : decode cL_isRefused 1342 = .ok (.iconst 1, 1) := by decide +kernel
theorem dL_isRefused_1343 : decode cL_isRefused 1343 = .ok (.goto 4, 3) := by decide +kernel
theorem dL_isRefused_1346 : decode cL_isRefused 1346 = .ok (.iconst 0, 1) := by decide +kernel
theorem dL_isRefused_1347 : decode cL_isRefused 1347 = .ok (.istore 10, 2) := by decide +kernel
theorem dL_isRefused_1349 : decode cL_isRefused 1349 = .ok (.iinc 11 1, 3) := by decide +kernel
theorem dL_isRefused_1352 : decode cL_isRefused 1352 = .ok (.goto (-484), 3) := by decide +kernel
theorem dL_isRefused_1355 : decode cL_isRefused 1355 = .ok (.iconst 0, 1) := by decide +kernel
theorem dL_isRefused_1356 : decode cL_isRefused 1356 = .ok (.istore 11, 2) := by decide +kernel
theorem dL_isRefused_1358 : decode cL_isRefused 1358 = .ok (.iload 11, 2) := by decide +kernel
theorem dL_isRefused_1360 : decode cL_isRefused 1360 = .ok (.aload_n 1, 1) := by decide +kernel
theorem dL_isRefused_1361 : decode cL_isRefused 1361 = .ok (.iconst 1, 1) := by decide +kernel
theorem dL_isRefused_1362 : decode cL_isRefused 1362 = .ok (.iaload, 1) := by decide +kernel
theorem dL_isRefused_1363 : decode cL_isRefused 1363 = .ok (.if_icmp .ge 176, 3) := by decide +kernel
theorem dL_isRefused_1366 : decode cL_isRefused 1366 = .ok (.iload 10, 2) := by decide +kernel
theorem dL_isRefused_1368 : decode cL_isRefused 1368 = .ok (.ifCond .eq 171, 3) := by decide +kernel
theorem dL_isRefused_1371 : decode cL_isRefused 1371 = .ok (.aload_n 0, 1) := by decide +kernel
theorem dL_isRefused_1372 : decode cL_isRefused 1372 = .ok (.iload 11, 2) := by decide +kernel
theorem dL_isRefused_1374 : decode cL_isRefused 1374 = .ok (.iconst 0, 1) := by decide +kernel
theorem dL_isRefused_1375 : decode cL_isRefused 1375 = .ok (.invokevirtual 82, 3) := by decide +kernel
theorem dL_isRefused_1378 : decode cL_isRefused 1378 = .ok (.istore 12, 2) := by decide +kernel
theorem dL_isRefused_1380 : decode cL_isRefused 1380 = .ok (.aload_n 0, 1) := by decide +kernel
theorem dL_isRefused_1381 : decode cL_isRefused 1381 = .ok (.bipush 17, 2) := by decide +kernel
theorem dL_isRefused_1383 : decode cL_isRefused 1383 = .ok (.iload 11, 2) := by decide +kernel
theorem dL_isRefused_1385 : decode cL_isRefused 1385 = .ok (.iload 5, 2) := by decide +kernel
theorem dL_isRefused_1387 : decode cL_isRefused 1387 = .ok (.iconst 0, 1) := by decide +kernel
theorem dL_isRefused_1388 : decode cL_isRefused 1388 = .ok (.invokestatic 141, 3) := by decide +kernel
theorem dL_isRefused_1391 : decode cL_isRefused 1391 = .ok (.ifCond .eq 139, 3) := by decide +kernel
theorem dL_isRefused_1394 : decode cL_isRefused 1394 = .ok (.aload_n 0, 1) := by decide +kernel
theorem dL_isRefused_1395 : decode cL_isRefused 1395 = .ok (.bipush 17, 2) := by decide +kernel
theorem dL_isRefused_1397 : decode cL_isRefused 1397 = .ok (.iload 11, 2) := by decide +kernel
theorem dL_isRefused_1399 : decode cL_isRefused 1399 = .ok (.iload 12, 2) := by decide +kernel
theorem dL_isRefused_1401 : decode cL_isRefused 1401 = .ok (.iconst 0, 1) := by decide +kernel
theorem dL_isRefused_1402 : decode cL_isRefused 1402 = .ok (.invokestatic 146, 3) := by decide +kernel
theorem dL_isRefused_1405 : decode cL_isRefused 1405 = .ok (.ifCond .eq 125, 3) := by decide +kernel
theorem dL_isRefused_1408 : decode cL_isRefused 1408 = .ok (.aload_n 0, 1) := by decide +kernel
theorem dL_isRefused_1409 : decode cL_isRefused 1409 = .ok (.bipush 21, 2) := by decide +kernel
theorem dL_isRefused_1411 : decode cL_isRefused 1411 = .ok (.iload 11, 2) := by decide +kernel
theorem dL_isRefused_1413 : decode cL_isRefused 1413 = .ok (.iload_n 3, 1) := by decide +kernel
theorem dL_isRefused_1414 : decode cL_isRefused 1414 = .ok (.ifCond .eq 12, 3) := by decide +kernel
theorem dL_isRefused_1417 : decode cL_isRefused 1417 = .ok (.iconst (-1), 1) := by decide +kernel
theorem dL_isRefused_1418 : decode cL_isRefused 1418 = .ok (.iload_n 2, 1) := by decide +kernel
theorem dL_isRefused_1419 : decode cL_isRefused 1419 = .ok (.bipush 30, 2) := by decide +kernel
theorem dL_isRefused_1421 : decode cL_isRefused 1421 = .ok (.irem, 1) := by decide +kernel
theorem dL_isRefused_1422 : decode cL_isRefused 1422 = .ok (.isub, 1) := by decide +kernel
theorem dL_isRefused_1423 : decode cL_isRefused 1423 = .ok (.goto 5, 3) := by decide +kernel
theorem dL_isRefused_1426 : decode cL_isRefused 1426 = .ok (.bipush 6, 2) := by decide +kernel
theorem dL_isRefused_1428 : decode cL_isRefused 1428 = .ok (.iconst 0, 1) := by decide +kernel
theorem dL_isRefused_1429 : decode cL_isRefused 1429 = .ok (.invokestatic 146, 3) := by decide +kernel
theorem dL_isRefused_1432 : decode cL_isRefused 1432 = .ok (.ifCond .eq 98, 3) := by decide +kernel
theorem dL_isRefused_1435 : decode cL_isRefused 1435 = .ok (.aload_n 0, 1) := by decide +kernel
theorem dL_isRefused_1436 : decode cL_isRefused 1436 = .ok (.bipush 27, 2) := by decide +kernel
theorem dL_isRefused_1438 : decode cL_isRefused 1438 = .ok (.iload 11, 2) := by decide +kernel
theorem dL_isRefused_1440 : decode cL_isRefused 1440 = .ok (.iload 7, 2) := by decide +kernel
theorem dL_isRefused_1442 : decode cL_isRefused 1442 = .ok (.iconst 0, 1) := by decide +kernel
theorem dL_isRefused_1443 : decode cL_isRefused 1443 = .ok (.invokestatic 146, 3) := by decide +kernel
theorem dL_isRefused_1446 : decode cL_isRefused 1446 = .ok (.ifCond .eq 84, 3) := by decide +kernel
theorem dL_isRefused_1449 : decode cL_isRefused 1449 = .ok (.aload_n 0, 1) := by decide +kernel
theorem dL_isRefused_1450 : decode cL_isRefused 1450 = .ok (.bipush 28, 2) := by decide +kernel
theorem dL_isRefused_1452 : decode cL_isRefused 1452 = .ok (.iload 11, 2) := by decide +kernel
theorem dL_isRefused_1454 : decode cL_isRefused 1454 = .ok (.bipush 9, 2) := by decide +kernel
theorem dL_isRefused_1456 : decode cL_isRefused 1456 = .ok (.iconst (-1), 1) := by decide +kernel
theorem dL_isRefused_1457 : decode cL_isRefused 1457 = .ok (.iload_n 2, 1) := by decide +kernel
theorem dL_isRefused_1458 : decode cL_isRefused 1458 = .ok (.bipush 30, 2) := by decide +kernel
theorem dL_isRefused_1460 : decode cL_isRefused 1460 = .ok (.irem, 1) := by decide +kernel
theorem dL_isRefused_1461 : decode cL_isRefused 1461 = .ok (.isub, 1) := by decide +kernel
theorem dL_isRefused_1462 : decode cL_isRefused 1462 = .ok (.invokestatic 141, 3) := by decide +kernel
theorem dL_isRefused_1465 : decode cL_isRefused 1465 = .ok (.ifCond .eq 65, 3) := by decide +kernel
theorem dL_isRefused_1468 : decode cL_isRefused 1468 = .ok (.aload_n 0, 1) := by decide +kernel
theorem dL_isRefused_1469 : decode cL_isRefused 1469 = .ok (.bipush 28, 2) := by decide +kernel
theorem dL_isRefused_1471 : decode cL_isRefused 1471 = .ok (.iload 11, 2) := by decide +kernel
theorem dL_isRefused_1473 : decode cL_isRefused 1473 = .ok (.iload 7, 2) := by decide +kernel
theorem dL_isRefused_1475 : decode cL_isRefused 1475 = .ok (.iconst 0, 1) := by decide +kernel
theorem dL_isRefused_1476 : decode cL_isRefused 1476 = .ok (.invokestatic 146, 3) := by decide +kernel
theorem dL_isRefused_1479 : decode cL_isRefused 1479 = .ok (.ifCond .eq 51, 3) := by decide +kernel
theorem dL_isRefused_1482 : decode cL_isRefused 1482 = .ok (.aload_n 0, 1) := by decide +kernel
theorem dL_isRefused_1483 : decode cL_isRefused 1483 = .ok (.iload 11, 2) := by decide +kernel
theorem dL_isRefused_1485 : decode cL_isRefused 1485 = .ok (.iconst 3, 1) := by decide +kernel
theorem dL_isRefused_1486 : decode cL_isRefused 1486 = .ok (.invokevirtual 82, 3) := by decide +kernel
theorem dL_isRefused_1489 : decode cL_isRefused 1489 = .ok (.iconst 1, 1) := by decide +kernel
theorem dL_isRefused_1490 : decode cL_isRefused 1490 = .ok (.if_icmp .eq 36, 3) := by decide +kernel
theorem dL_isRefused_1493 : decode cL_isRefused 1493 = .ok (.aload_n 0, 1) := by decide +kernel
theorem dL_isRefused_1494 : decode cL_isRefused 1494 = .ok (.bipush 17, 2) := by decide +kernel
theorem dL_isRefused_1496 : decode cL_isRefused 1496 = .ok (.iload 11, 2) := by decide +kernel
theorem dL_isRefused_1498 : decode cL_isRefused 1498 = .ok (.iload 12, 2) := by decide +kernel
theorem dL_isRefused_1500 : decode cL_isRefused 1500 = .ok (.ifCond .ne 11, 3) := by decide +kernel
theorem dL_isRefused_1503 : decode cL_isRefused 1503 = .ok (.aload_n 1, 1) := by decide +kernel
theorem dL_isRefused_1504 : decode cL_isRefused 1504 = .ok (.iconst 0, 1) := by decide +kernel
theorem dL_isRefused_1505 : decode cL_isRefused 1505 = .ok (.iaload, 1) := by decide +kernel
theorem dL_isRefused_1506 : decode cL_isRefused 1506 = .ok (.iconst 1, 1) := by decide +kernel
theorem dL_isRefused_1507 : decode cL_isRefused 1507 = .ok (.isub, 1) := by decide +kernel
theorem dL_isRefused_1508 : decode cL_isRefused 1508 = .ok (.goto 4, 3) := by decide +kernel
theorem dL_isRefused_1511 : decode cL_isRefused 1511 = .ok (.iconst 0, 1) := by decide +kernel
theorem dL_isRefused_1512 : decode cL_isRefused 1512 = .ok (.iconst 0, 1) := by decide +kernel
theorem dL_isRefused_1513 : decode cL_isRefused 1513 = .ok (.invokestatic 149, 3) := by decide +kernel
theorem dL_isRefused_1516 : decode cL_isRefused 1516 = .ok (.ifCond .ne 10, 3) := by decide +kernel
theorem dL_isRefused_1519 : decode cL_isRefused 1519 = .ok (.aload_n 1, 1) := by decide +kernel
theorem dL_isRefused_1520 : decode cL_isRefused 1520 = .ok (.iconst 0, 1) := by decide +kernel
theorem dL_isRefused_1521 : decode cL_isRefused 1521 = .ok (.iaload, 1) := by decide +kernel
theorem dL_isRefused_1522 : decode cL_isRefused 1522 = .ok (.iconst 1, 1) := by decide +kernel
theorem dL_isRefused_1523 : decode cL_isRefused 1523 = .ok (.if_icmp .ne 7, 3) := by decide +kernel
theorem dL_isRefused_1526 : decode cL_isRefused 1526 = .ok (.iconst 1, 1) := by decide +kernel
theorem dL_isRefused_1527 : decode cL_isRefused 1527 = .ok (.goto 4, 3) := by decide +kernel
theorem dL_isRefused_1530 : decode cL_isRefused 1530 = .ok (.iconst 0, 1) := by decide +kernel
theorem dL_isRefused_1531 : decode cL_isRefused 1531 = .ok (.istore 10, 2) := by decide +kernel
theorem dL_isRefused_1533 : decode cL_isRefused 1533 = .ok (.iinc 11 1, 3) := by decide +kernel
theorem dL_isRefused_1536 : decode cL_isRefused 1536 = .ok (.goto (-178), 3) := by decide +kernel
theorem dL_isRefused_1539 : decode cL_isRefused 1539 = .ok (.iload 10, 2) := by decide +kernel
theorem dL_isRefused_1541 : decode cL_isRefused 1541 = .ok (.ifCond .eq 18, 3) := by decide +kernel
theorem dL_isRefused_1544 : decode cL_isRefused 1544 = .ok (.aload_n 0, 1) := by decide +kernel
theorem dL_isRefused_1545 : decode cL_isRefused 1545 = .ok (.aload_n 1, 1) := by decide +kernel
theorem dL_isRefused_1546 : decode cL_isRefused 1546 = .ok (.invokestatic 137, 3) := by decide +kernel
theorem dL_isRefused_1549 : decode cL_isRefused 1549 = .ok (.lload 8, 2) := by decide +kernel
theorem dL_isRefused_1551 : decode cL_isRefused 1551 = .ok (.lcmp, 1) := by decide +kernel
theorem dL_isRefused_1552 : decode cL_isRefused 1552 = .ok (.ifCond .ne 7, 3) := by decide +kernel
theorem dL_isRefused_1555 : decode cL_isRefused 1555 = .ok (.iconst 1, 1) := by decide +kernel
theorem dL_isRefused_1556 : decode cL_isRefused 1556 = .ok (.goto 4, 3) := by decide +kernel
theorem dL_isRefused_1559 : decode cL_isRefused 1559 = .ok (.iconst 0, 1) := by decide +kernel
theorem dL_isRefused_1560 : decode cL_isRefused 1560 = .ok (.ireturn, 1) := by decide +kernel
