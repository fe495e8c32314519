theorem dL_pick_0 : decode cL_pick 0 = .ok (.iload_n 1, 1) := by decide +kernel
theorem dL_pick_1 : decode cL_pick 1 = .ok (.aload_n 0, 1) := by decide +kernel
theorem dL_pick_2 : decode cL_pick 2 = .ok (.arraylength, 1) := by decide +kernel
theorem dL_pick_3 : decode cL_pick 3 = .ok (.if_icmp .ge 9, 3) := by decide +kernel
theorem dL_pick_6 : decode cL_pick 6 = .ok (.aload_n 0, 1) := by decide +kernel
theorem dL_pick_7 : decode cL_pick 7 = .ok (.iload_n 1, 1) := by decide +kernel
theorem dL_pick_8 : decode cL_pick 8 = .ok (.iaload, 1) := by decide +kernel
theorem dL_pick_9 : decode cL_pick 9 = .ok (.goto 23, 3) := by decide +kernel
theorem dL_pick_12 : decode cL_pick 12 = .ok (.ldc 7, 2) := by decide +kernel
theorem dL_pick_14 : decode cL_pick 14 = .ok (.iload_n 1, 1) := by decide +kernel
theorem dL_pick_15 : decode cL_pick 15 = .ok (.sipush 701, 3) := by decide +kernel
theorem dL_pick_18 : decode cL_pick 18 = .ok (.iadd, 1) := by decide +kernel
theorem dL_pick_19 : decode cL_pick 19 = .ok (.imul, 1) := by decide +kernel
theorem dL_pick_20 : decode cL_pick 20 = .ok (.sipush 987, 3) := by decide +kernel
theorem dL_pick_23 : decode cL_pick 23 = .ok (.iload_n 1, 1) := by decide +kernel
theorem dL_pick_24 : decode cL_pick 24 = .ok (.imul, 1) := by decide +kernel
theorem dL_pick_25 : decode cL_pick 25 = .ok (.iload_n 1, 1) := by decide +kernel
theorem dL_pick_26 : decode cL_pick 26 = .ok (.imul, 1) := by decide +kernel
theorem dL_pick_27 : decode cL_pick 27 = .ok (.iadd, 1) := by decide +kernel
theorem dL_pick_28 : decode cL_pick 28 = .ok (.sipush 569, 3) := by decide +kernel
theorem dL_pick_31 : decode cL_pick 31 = .ok (.iadd, 1) := by decide +kernel
theorem dL_pick_32 : decode cL_pick 32 = .ok (.ldc 8, 2) := by decide +kernel
theorem dL_pick_34 : decode cL_pick 34 = .ok (.iand, 1) := by decide +kernel
theorem dL_pick_35 : decode cL_pick 35 = .ok (.ireturn, 1) := by decide +kernel
theorem dL_act_0 : decode cL_act 0 = .ok (.iload_n 1, 1) := by decide +kernel
theorem dL_act_1 : decode cL_act 1 = .ok (.ifCond .ne 14, 3) := by decide +kernel
theorem dL_act_4 : decode cL_act 4 = .ok (.aload_n 0, 1) := by decide +kernel
theorem dL_act_5 : decode cL_act 5 = .ok (.iload_n 2, 1) := by decide +kernel
theorem dL_act_6 : decode cL_act 6 = .ok (.iload_n 3, 1) := by decide +kernel
theorem dL_act_7 : decode cL_act 7 = .ok (.iload 4, 2) := by decide +kernel
theorem dL_act_9 : decode cL_act 9 = .ok (.invokevirtual 9, 3) := by decide +kernel
theorem dL_act_12 : decode cL_act 12 = .ok (.goto 425, 3) := by decide +kernel
theorem dL_act_15 : decode cL_act 15 = .ok (.iload_n 1, 1) := by decide +kernel
theorem dL_act_16 : decode cL_act 16 = .ok (.iconst 1, 1) := by decide +kernel
theorem dL_act_17 : decode cL_act 17 = .ok (.if_icmp .ne 11, 3) := by decide +kernel
theorem dL_act_20 : decode cL_act 20 = .ok (.aload_n 0, 1) := by decide +kernel
theorem dL_act_21 : decode cL_act 21 = .ok (.iload_n 2, 1) := by decide +kernel
theorem dL_act_22 : decode cL_act 22 = .ok (.invokevirtual 15, 3) := by decide +kernel
theorem dL_act_25 : decode cL_act 25 = .ok (.goto 412, 3) := by decide +kernel
theorem dL_act_28 : decode cL_act 28 = .ok (.iload_n 1, 1) := by decide +kernel
theorem dL_act_29 : decode cL_act 29 = .ok (.iconst 2, 1) := by decide +kernel
theorem dL_act_30 : decode cL_act 30 = .ok (.if_icmp .ne 12, 3) := by decide +kernel
theorem dL_act_33 : decode cL_act 33 = .ok (.aload_n 0, 1) := by decide +kernel
theorem dL_act_34 : decode cL_act 34 = .ok (.iload_n 2, 1) := by decide +kernel
theorem dL_act_35 : decode cL_act 35 = .ok (.iload_n 3, 1) := by decide +kernel
theorem dL_act_36 : decode cL_act 36 = .ok (.invokevirtual 19, 3) := by decide +kernel
theorem dL_act_39 : decode cL_act 39 = .ok (.goto 398, 3) := by decide +kernel
theorem dL_act_42 : decode cL_act 42 = .ok (.iload_n 1, 1) := by decide +kernel
theorem dL_act_43 : decode cL_act 43 = .ok (.iconst 3, 1) := by decide +kernel
theorem dL_act_44 : decode cL_act 44 = .ok (.if_icmp .ne 11, 3) := by decide +kernel
theorem dL_act_47 : decode cL_act 47 = .ok (.aload_n 0, 1) := by decide +kernel
theorem dL_act_48 : decode cL_act 48 = .ok (.iload_n 2, 1) := by decide +kernel
theorem dL_act_49 : decode cL_act 49 = .ok (.invokevirtual 23, 3) := by decide +kernel
theorem dL_act_52 : decode cL_act 52 = .ok (.goto 385, 3) := by decide +kernel
theorem dL_act_55 : decode cL_act 55 = .ok (.iload_n 1, 1) := by decide +kernel
theorem dL_act_56 : decode cL_act 56 = .ok (.iconst 4, 1) := by decide +kernel
theorem dL_act_57 : decode cL_act 57 = .ok (.if_icmp .ne 24, 3) := by decide +kernel
theorem dL_act_60 : decode cL_act 60 = .ok (.aload_n 0, 1) := by decide +kernel
theorem dL_act_61 : decode cL_act 61 = .ok (.iload_n 2, 1) := by decide +kernel
theorem dL_act_62 : decode cL_act 62 = .ok (.iload_n 3, 1) := by decide +kernel
theorem dL_act_63 : decode cL_act 63 = .ok (.iload 4, 2) := by decide +kernel
theorem dL_act_65 : decode cL_act 65 = .ok (.iload 5, 2) := by decide +kernel
theorem dL_act_67 : decode cL_act 67 = .ok (.invokevirtual 26, 3) := by decide +kernel
theorem dL_act_70 : decode cL_act 70 = .ok (.ifCond .eq 7, 3) := by decide +kernel
theorem dL_act_73 : decode cL_act 73 = .ok (.iconst 1, 1) := by decide +kernel
theorem dL_act_74 : decode cL_act 74 = .ok (.goto 363, 3) := by decide +kernel
theorem dL_act_77 : decode cL_act 77 = .ok (.iconst 0, 1) := by decide +kernel
theorem dL_act_78 : decode cL_act 78 = .ok (.goto 359, 3) := by decide +kernel
theorem dL_act_81 : decode cL_act 81 = .ok (.iload_n 1, 1) := by decide +kernel
theorem dL_act_82 : decode cL_act 82 = .ok (.iconst 5, 1) := by decide +kernel
theorem dL_act_83 : decode cL_act 83 = .ok (.if_icmp .ne 14, 3) := by decide +kernel
theorem dL_act_86 : decode cL_act 86 = .ok (.aload_n 0, 1) := by decide +kernel
theorem dL_act_87 : decode cL_act 87 = .ok (.iload_n 2, 1) := by decide +kernel
theorem dL_act_88 : decode cL_act 88 = .ok (.iload_n 3, 1) := by decide +kernel
theorem dL_act_89 : decode cL_act 89 = .ok (.iload 4, 2) := by decide +kernel
theorem dL_act_91 : decode cL_act 91 = .ok (.invokevirtual 30, 3) := by decide +kernel
theorem dL_act_94 : decode cL_act 94 = .ok (.goto 343, 3) := by decide +kernel
theorem dL_act_97 : decode cL_act 97 = .ok (.iload_n 1, 1) := by decide +kernel
theorem dL_act_98 : decode cL_act 98 = .ok (.bipush 6, 2) := by decide +kernel
theorem dL_act_100 : decode cL_act 100 = .ok (.if_icmp .ne 12, 3) := by decide +kernel
theorem dL_act_103 : decode cL_act 103 = .ok (.aload_n 0, 1) := by decide +kernel
theorem dL_act_104 : decode cL_act 104 = .ok (.iload_n 2, 1) := by decide +kernel
theorem dL_act_105 : decode cL_act 105 = .ok (.iload_n 3, 1) := by decide +kernel
theorem dL_act_106 : decode cL_act 106 = .ok (.invokevirtual 33, 3) := by decide +kernel
theorem dL_act_109 : decode cL_act 109 = .ok (.goto 328, 3) := by decide +kernel
theorem dL_act_112 : decode cL_act 112 = .ok (.iload_n 1, 1) := by decide +kernel
theorem dL_act_113 : decode cL_act 113 = .ok (.bipush 7, 2) := by decide +kernel
theorem dL_act_115 : decode cL_act 115 = .ok (.if_icmp .ne 14, 3) := by decide +kernel
theorem dL_act_118 : decode cL_act 118 = .ok (.aload_n 0, 1) := by decide +kernel
theorem dL_act_119 : decode cL_act 119 = .ok (.iload_n 2, 1) := by decide +kernel
theorem dL_act_120 : decode cL_act 120 = .ok (.iload_n 3, 1) := by decide +kernel
theorem dL_act_121 : decode cL_act 121 = .ok (.iload 4, 2) := by decide +kernel
theorem dL_act_123 : decode cL_act 123 = .ok (.invokevirtual 36, 3) := by decide +kernel
theorem dL_act_126 : decode cL_act 126 = .ok (.goto 311, 3) := by decide +kernel
theorem dL_act_129 : decode cL_act 129 = .ok (.iload_n 1, 1) := by decide +kernel
theorem dL_act_130 : decode cL_act 130 = .ok (.bipush 8, 2) := by decide +kernel
theorem dL_act_132 : decode cL_act 132 = .ok (.if_icmp .ne 11, 3) := by decide +kernel
theorem dL_act_135 : decode cL_act 135 = .ok (.aload_n 0, 1) := by decide +kernel
theorem dL_act_136 : decode cL_act 136 = .ok (.iload_n 2, 1) := by decide +kernel
theorem dL_act_137 : decode cL_act 137 = .ok (.invokevirtual 39, 3) := by decide +kernel
theorem dL_act_140 : decode cL_act 140 = .ok (.goto 297, 3) := by decide +kernel
theorem dL_act_143 : decode cL_act 143 = .ok (.iload_n 1, 1) := by decide +kernel
theorem dL_act_144 : decode cL_act 144 = .ok (.bipush 9, 2) := by decide +kernel
theorem dL_act_146 : decode cL_act 146 = .ok (.if_icmp .ne 14, 3) := by decide +kernel
theorem dL_act_149 : decode cL_act 149 = .ok (.aload_n 0, 1) := by decide +kernel
theorem dL_act_150 : decode cL_act 150 = .ok (.iload_n 2, 1) := by decide +kernel
theorem dL_act_151 : decode cL_act 151 = .ok (.iload_n 3, 1) := by decide +kernel
theorem dL_act_152 : decode cL_act 152 = .ok (.iload 4, 2) := by decide +kernel
theorem dL_act_154 : decode cL_act 154 = .ok (.invokevirtual 42, 3) := by decide +kernel
theorem dL_act_157 : decode cL_act 157 = .ok (.goto 280, 3) := by decide +kernel
theorem dL_act_160 : decode cL_act 160 = .ok (.iload_n 1, 1) := by decide +kernel
theorem dL_act_161 : decode cL_act 161 = .ok (.bipush 10, 2) := by decide +kernel
theorem dL_act_163 : decode cL_act 163 = .ok (.if_icmp .ne 12, 3) := by decide +kernel
theorem dL_act_166 : decode cL_act 166 = .ok (.aload_n 0, 1) := by decide +kernel
theorem dL_act_167 : decode cL_act 167 = .ok (.iload_n 2, 1) := by decide +kernel
theorem dL_act_168 : decode cL_act 168 = .ok (.iload_n 3, 1) := by decide +kernel
theorem dL_act_169 : decode cL_act 169 = .ok (.invokevirtual 45, 3) := by decide +kernel
theorem dL_act_172 : decode cL_act 172 = .ok (.goto 265, 3) := by decide +kernel
theorem dL_act_175 : decode cL_act 175 = .ok (.iload_n 1, 1) := by decide +kernel
theorem dL_act_176 : decode cL_act 176 = .ok (.bipush 11, 2) := by decide +kernel
theorem dL_act_178 : decode cL_act 178 = .ok (.if_icmp .ne 12, 3) := by decide +kernel
theorem dL_act_181 : decode cL_act 181 = .ok (.aload_n 0, 1) := by decide +kernel
theorem dL_act_182 : decode cL_act 182 = .ok (.iload_n 2, 1) := by decide +kernel
theorem dL_act_183 : decode cL_act 183 = .ok (.iload_n 3, 1) := by decide +kernel
theorem dL_act_184 : decode cL_act 184 = .ok (.invokevirtual 48, 3) := by decide +kernel
theorem dL_act_187 : decode cL_act 187 = .ok (.goto 250, 3) := by decide +kernel
theorem dL_act_190 : decode cL_act 190 = .ok (.iload_n 1, 1) := by decide +kernel
theorem dL_act_191 : decode cL_act 191 = .ok (.bipush 12, 2) := by decide +kernel
theorem dL_act_193 : decode cL_act 193 = .ok (.if_icmp .ne 11, 3) := by decide +kernel
theorem dL_act_196 : decode cL_act 196 = .ok (.aload_n 0, 1) := by decide +kernel
theorem dL_act_197 : decode cL_act 197 = .ok (.iload_n 2, 1) := by decide +kernel
theorem dL_act_198 : decode cL_act 198 = .ok (.invokevirtual 51, 3) := by decide +kernel
theorem dL_act_201 : decode cL_act 201 = .ok (.goto 236, 3) := by decide +kernel
theorem dL_act_204 : decode cL_act 204 = .ok (.iload_n 1, 1) := by decide +kernel
theorem dL_act_205 : decode cL_act 205 = .ok (.bipush 13, 2) := by decide +kernel
theorem dL_act_207 : decode cL_act 207 = .ok (.if_icmp .ne 12, 3) := by decide +kernel
theorem dL_act_210 : decode cL_act 210 = .ok (.aload_n 0, 1) := by decide +kernel
theorem dL_act_211 : decode cL_act 211 = .ok (.iload_n 2, 1) := by decide +kernel
theorem dL_act_212 : decode cL_act 212 = .ok (.iload_n 3, 1) := by decide +kernel
theorem dL_act_213 : decode cL_act 213 = .ok (.invokestatic 54, 3) := by decide +kernel
theorem dL_act_216 : decode cL_act 216 = .ok (.goto 221, 3) := by decide +kernel
theorem dL_act_219 : decode cL_act 219 = .ok (.iload_n 1, 1) := by decide +kernel
theorem dL_act_220 : decode cL_act 220 = .ok (.bipush 14, 2) := by decide +kernel
theorem dL_act_222 : decode cL_act 222 = .ok (.if_icmp .ne 12, 3) := by decide +kernel
theorem dL_act_225 : decode cL_act 225 = .ok (.aload_n 0, 1) := by decide +kernel
theorem dL_act_226 : decode cL_act 226 = .ok (.iload_n 2, 1) := by decide +kernel
theorem dL_act_227 : decode cL_act 227 = .ok (.iload_n 3, 1) := by decide +kernel
theorem dL_act_228 : decode cL_act 228 = .ok (.invokevirtual 60, 3) := by decide +kernel
theorem dL_act_231 : decode cL_act 231 = .ok (.goto 206, 3) := by decide +kernel
theorem dL_act_234 : decode cL_act 234 = .ok (.iload_n 1, 1) := by decide +kernel
theorem dL_act_235 : decode cL_act 235 = .ok (.bipush 15, 2) := by decide +kernel
theorem dL_act_237 : decode cL_act 237 = .ok (.if_icmp .ne 16, 3) := by decide +kernel
theorem dL_act_240 : decode cL_act 240 = .ok (.aload_n 0, 1) := by decide +kernel
theorem dL_act_241 : decode cL_act 241 = .ok (.iload_n 2, 1) := by decide +kernel
theorem dL_act_242 : decode cL_act 242 = .ok (.iload_n 3, 1) := by decide +kernel
theorem dL_act_243 : decode cL_act 243 = .ok (.iload 4, 2) := by decide +kernel
theorem dL_act_245 : decode cL_act 245 = .ok (.iload 5, 2) := by decide +kernel
theorem dL_act_247 : decode cL_act 247 = .ok (.invokestatic 63, 3) := by decide +kernel
theorem dL_act_250 : decode cL_act 250 = .ok (.goto 187, 3) := by decide +kernel
theorem dL_act_253 : decode cL_act 253 = .ok (.iload_n 1, 1) := by decide +kernel
theorem dL_act_254 : decode cL_act 254 = .ok (.bipush 16, 2) := by decide +kernel
theorem dL_act_256 : decode cL_act 256 = .ok (.if_icmp .ne 12, 3) := by decide +kernel
theorem dL_act_259 : decode cL_act 259 = .ok (.aload_n 0, 1) := by decide +kernel
theorem dL_act_260 : decode cL_act 260 = .ok (.iload_n 2, 1) := by decide +kernel
theorem dL_act_261 : decode cL_act 261 = .ok (.iload_n 3, 1) := by decide +kernel
theorem dL_act_262 : decode cL_act 262 = .ok (.invokevirtual 67, 3) := by decide +kernel
theorem dL_act_265 : decode cL_act 265 = .ok (.goto 172, 3) := by decide +kernel
theorem dL_act_268 : decode cL_act 268 = .ok (.iload_n 1, 1) := by decide +kernel
theorem dL_act_269 : decode cL_act 269 = .ok (.bipush 17, 2) := by decide +kernel
theorem dL_act_271 : decode cL_act 271 = .ok (.if_icmp .ne 14, 3) := by decide +kernel
theorem dL_act_274 : decode cL_act 274 = .ok (.aload_n 0, 1) := by decide +kernel
theorem dL_act_275 : decode cL_act 275 = .ok (.iload_n 2, 1) := by decide +kernel
theorem dL_act_276 : decode cL_act 276 = .ok (.iload_n 3, 1) := by decide +kernel
theorem dL_act_277 : decode cL_act 277 = .ok (.iload 4, 2) := by decide +kernel
theorem dL_act_279 : decode cL_act 279 = .ok (.invokevirtual 70, 3) := by decide +kernel
theorem dL_act_282 : decode cL_act 282 = .ok (.goto 155, 3) := by decide +kernel
theorem dL_act_285 : decode cL_act 285 = .ok (.iload_n 1, 1) := by decide +kernel
theorem dL_act_286 : decode cL_act 286 = .ok (.bipush 18, 2) := by decide +kernel
theorem dL_act_288 : decode cL_act 288 = .ok (.if_icmp .ne 11, 3) := by decide +kernel
theorem dL_act_291 : decode cL_act 291 = .ok (.aload_n 0, 1) := by decide +kernel
theorem dL_act_292 : decode cL_act 292 = .ok (.iload_n 2, 1) := by decide +kernel
theorem dL_act_293 : decode cL_act 293 = .ok (.invokevirtual 73, 3) := by decide +kernel
theorem dL_act_296 : decode cL_act 296 = .ok (.goto 141, 3) := by decide +kernel
theorem dL_act_299 : decode cL_act 299 = .ok (.iload_n 1, 1) := by decide +kernel
theorem dL_act_300 : decode cL_act 300 = .ok (.bipush 19, 2) := by decide +kernel
theorem dL_act_302 : decode cL_act 302 = .ok (.if_icmp .ne 12, 3) := by decide +kernel
theorem dL_act_305 : decode cL_act 305 = .ok (.aload_n 0, 1) := by decide +kernel
theorem dL_act_306 : decode cL_act 306 = .ok (.iload_n 2, 1) := by decide +kernel
theorem dL_act_307 : decode cL_act 307 = .ok (.iload_n 3, 1) := by decide +kernel
theorem dL_act_308 : decode cL_act 308 = .ok (.invokevirtual 76, 3) := by decide +kernel
theorem dL_act_311 : decode cL_act 311 = .ok (.goto 126, 3) := by decide +kernel
theorem dL_act_314 : decode cL_act 314 = .ok (.iload_n 1, 1) := by decide +kernel
theorem dL_act_315 : decode cL_act 315 = .ok (.bipush 20, 2) := by decide +kernel
theorem dL_act_317 : decode cL_act 317 = .ok (.if_icmp .ne 11, 3) := by decide +kernel
theorem dL_act_320 : decode cL_act 320 = .ok (.aload_n 0, 1) := by decide +kernel
theorem dL_act_321 : decode cL_act 321 = .ok (.iload_n 2, 1) := by decide +kernel
theorem dL_act_322 : decode cL_act 322 = .ok (.invokevirtual 79, 3) := by decide +kernel
theorem dL_act_325 : decode cL_act 325 = .ok (.goto 112, 3) := by decide +kernel
theorem dL_act_328 : decode cL_act 328 = .ok (.iload_n 1, 1) := by decide +kernel
theorem dL_act_329 : decode cL_act 329 = .ok (.bipush 21, 2) := by decide +kernel
theorem dL_act_331 : decode cL_act 331 = .ok (.if_icmp .ne 12, 3) := by decide +kernel
theorem dL_act_334 : decode cL_act 334 = .ok (.aload_n 0, 1) := by decide +kernel
theorem dL_act_335 : decode cL_act 335 = .ok (.iload_n 2, 1) := by decide +kernel
theorem dL_act_336 : decode cL_act 336 = .ok (.iload_n 3, 1) := by decide +kernel
theorem dL_act_337 : decode cL_act 337 = .ok (.invokevirtual 82, 3) := by decide +kernel
theorem dL_act_340 : decode cL_act 340 = .ok (.goto 97, 3) := by decide +kernel
theorem dL_act_343 : decode cL_act 343 = .ok (.iload_n 1, 1) := by decide +kernel
theorem dL_act_344 : decode cL_act 344 = .ok (.bipush 22, 2) := by decide +kernel
theorem dL_act_346 : decode cL_act 346 = .ok (.if_icmp .ne 12, 3) := by decide +kernel
theorem dL_act_349 : decode cL_act 349 = .ok (.aload_n 0, 1) := by decide +kernel
theorem dL_act_350 : decode cL_act 350 = .ok (.iload_n 2, 1) := by decide +kernel
theorem dL_act_351 : decode cL_act 351 = .ok (.iload_n 3, 1) := by decide +kernel
theorem dL_act_352 : decode cL_act 352 = .ok (.invokevirtual 85, 3) := by decide +kernel
theorem dL_act_355 : decode cL_act 355 = .ok (.goto 82, 3) := by decide +kernel
theorem dL_act_358 : decode cL_act 358 = .ok (.iload_n 1, 1) := by decide +kernel
theorem dL_act_359 : decode cL_act 359 = .ok (.bipush 23, 2) := by decide +kernel
theorem dL_act_361 : decode cL_act 361 = .ok (.if_icmp .ne 11, 3) := by decide +kernel
theorem dL_act_364 : decode cL_act 364 = .ok (.aload_n 0, 1) := by decide +kernel
theorem dL_act_365 : decode cL_act 365 = .ok (.iload_n 2, 1) := by decide +kernel
theorem dL_act_366 : decode cL_act 366 = .ok (.invokevirtual 88, 3) := by decide +kernel
theorem dL_act_369 : decode cL_act 369 = .ok (.goto 68, 3) := by decide +kernel
theorem dL_act_372 : decode cL_act 372 = .ok (.iload_n 1, 1) := by decide +kernel
theorem dL_act_373 : decode cL_act 373 = .ok (.bipush 24, 2) := by decide +kernel
theorem dL_act_375 : decode cL_act 375 = .ok (.if_icmp .ne 11, 3) := by decide +kernel
theorem dL_act_378 : decode cL_act 378 = .ok (.aload_n 0, 1) := by decide +kernel
theorem dL_act_379 : decode cL_act 379 = .ok (.iload_n 2, 1) := by decide +kernel
theorem dL_act_380 : decode cL_act 380 = .ok (.invokevirtual 91, 3) := by decide +kernel
theorem dL_act_383 : decode cL_act 383 = .ok (.goto 54, 3) := by decide +kernel
theorem dL_act_386 : decode cL_act 386 = .ok (.iload_n 1, 1) := by decide +kernel
theorem dL_act_387 : decode cL_act 387 = .ok (.bipush 25, 2) := by decide +kernel
theorem dL_act_389 : decode cL_act 389 = .ok (.if_icmp .ne 11, 3) := by decide +kernel
theorem dL_act_392 : decode cL_act 392 = .ok (.aload_n 0, 1) := by decide +kernel
theorem dL_act_393 : decode cL_act 393 = .ok (.iload_n 2, 1) := by decide +kernel
theorem dL_act_394 : decode cL_act 394 = .ok (.invokevirtual 94, 3) := by decide +kernel
theorem dL_act_397 : decode cL_act 397 = .ok (.goto 40, 3) := by decide +kernel
theorem dL_act_400 : decode cL_act 400 = .ok (.iload_n 1, 1) := by decide +kernel
theorem dL_act_401 : decode cL_act 401 = .ok (.bipush 26, 2) := by decide +kernel
theorem dL_act_403 : decode cL_act 403 = .ok (.if_icmp .ne 11, 3) := by decide +kernel
theorem dL_act_406 : decode cL_act 406 = .ok (.aload_n 0, 1) := by decide +kernel
theorem dL_act_407 : decode cL_act 407 = .ok (.iload_n 2, 1) := by decide +kernel
theorem dL_act_408 : decode cL_act 408 = .ok (.invokevirtual 97, 3) := by decide +kernel
theorem dL_act_411 : decode cL_act 411 = .ok (.goto 26, 3) := by decide +kernel
theorem dL_act_414 : decode cL_act 414 = .ok (.iload_n 1, 1) := by decide +kernel
theorem dL_act_415 : decode cL_act 415 = .ok (.bipush 27, 2) := by decide +kernel
theorem dL_act_417 : decode cL_act 417 = .ok (.if_icmp .ne 12, 3) := by decide +kernel
theorem dL_act_420 : decode cL_act 420 = .ok (.aload_n 0, 1) := by decide +kernel
theorem dL_act_421 : decode cL_act 421 = .ok (.iload_n 2, 1) := by decide +kernel
theorem dL_act_422 : decode cL_act 422 = .ok (.iload_n 3, 1) := by decide +kernel
theorem dL_act_423 : decode cL_act 423 = .ok (.invokevirtual 100, 3) := by decide +kernel
theorem dL_act_426 : decode cL_act 426 = .ok (.goto 11, 3) := by decide +kernel
theorem dL_act_429 : decode cL_act 429 = .ok (.aload_n 0, 1) := by decide +kernel
theorem dL_act_430 : decode cL_act 430 = .ok (.iload_n 2, 1) := by decide +kernel
theorem dL_act_431 : decode cL_act 431 = .ok (.iload_n 3, 1) := by decide +kernel
theorem dL_act_432 : decode cL_act 432 = .ok (.iload 4, 2) := by decide +kernel
theorem dL_act_434 : decode cL_act 434 = .ok (.invokevirtual 103, 3) := by decide +kernel
theorem dL_act_437 : decode cL_act 437 = .ok (.ireturn, 1) := by decide +kernel
theorem dL_act_438 : decode cL_act 438 = .ok (.astore 6, 2) := by decide +kernel
theorem dL_act_440 : decode cL_act 440 = .ok (.ldc 108, 2) := by decide +kernel
theorem dL_act_442 : decode cL_act 442 = .ok (.ireturn, 1) := by decide +kernel
theorem dL_act_443 : decode cL_act 443 = .ok (.astore 6, 2) := by decide +kernel
theorem dL_act_445 : decode cL_act 445 = .ok (.ldc 111, 2) := by decide +kernel
theorem dL_act_447 : decode cL_act 447 = .ok (.ireturn, 1) := by decide +kernel
theorem dL_act_448 : decode cL_act 448 = .ok (.astore 6, 2) := by decide +kernel
theorem dL_act_450 : decode cL_act 450 = .ok (.ldc 114, 2) := by decide +kernel
theorem dL_act_452 : decode cL_act 452 = .ok (.ireturn, 1) := by decide +kernel
theorem dL_sends_0 : decode cL_sends 0 = .ok (.aload_n 0, 1) := by decide +kernel
theorem dL_sends_1 : decode cL_sends 1 = .ok (.iload_n 1, 1) := by decide +kernel
theorem dL_sends_2 : decode cL_sends 2 = .ok (.iload_n 2, 1) := by decide +kernel
theorem dL_sends_3 : decode cL_sends 3 = .ok (.invokevirtual 115, 3) := by decide +kernel
theorem dL_sends_6 : decode cL_sends 6 = .ok (.iconst 0, 1) := by decide +kernel
theorem dL_sends_7 : decode cL_sends 7 = .ok (.ireturn, 1) := by decide +kernel
theorem dL_backs_0 : decode cL_backs 0 = .ok (.aload_n 0, 1) := by decide +kernel
theorem dL_backs_1 : decode cL_backs 1 = .ok (.iload_n 1, 1) := by decide +kernel
theorem dL_backs_2 : decode cL_backs 2 = .ok (.iload_n 2, 1) := by decide +kernel
theorem dL_backs_3 : decode cL_backs 3 = .ok (.iload_n 3, 1) := by decide +kernel
theorem dL_backs_4 : decode cL_backs 4 = .ok (.iload 4, 2) := by decide +kernel
theorem dL_backs_6 : decode cL_backs 6 = .ok (.invokevirtual 119, 3) := by decide +kernel
theorem dL_backs_9 : decode cL_backs 9 = .ok (.iconst 0, 1) := by decide +kernel
theorem dL_backs_10 : decode cL_backs 10 = .ok (.ireturn, 1) := by decide +kernel
theorem dL_no_0 : decode cL_no 0 = .ok (.aload_n 0, 1) := by decide +kernel
theorem dL_no_1 : decode cL_no 1 = .ok (.iload_n 1, 1) := by decide +kernel
theorem dL_no_2 : decode cL_no 2 = .ok (.iload_n 2, 1) := by decide +kernel
theorem dL_no_3 : decode cL_no 3 = .ok (.iload_n 3, 1) := by decide +kernel
theorem dL_no_4 : decode cL_no 4 = .ok (.iload 4, 2) := by decide +kernel
theorem dL_no_6 : decode cL_no 6 = .ok (.iconst 0, 1) := by decide +kernel
theorem dL_no_7 : decode cL_no 7 = .ok (.invokestatic 123, 3) := by decide +kernel
theorem dL_no_10 : decode cL_no 10 = .ok (.ldc 108, 2) := by decide +kernel
theorem dL_no_12 : decode cL_no 12 = .ok (.if_icmp .ne 7, 3) := by decide +kernel
theorem dL_no_15 : decode cL_no 15 = .ok (.iconst 1, 1) := by decide +kernel
theorem dL_no_16 : decode cL_no 16 = .ok (.goto 4, 3) := by decide +kernel
theorem dL_no_19 : decode cL_no 19 = .ok (.iconst 0, 1) := by decide +kernel
theorem dL_no_20 : decode cL_no 20 = .ok (.ireturn, 1) := by decide +kernel
theorem dL_off_0 : decode cL_off 0 = .ok (.aload_n 0, 1) := by decide +kernel
theorem dL_off_1 : decode cL_off 1 = .ok (.iload_n 1, 1) := by decide +kernel
theorem dL_off_2 : decode cL_off 2 = .ok (.iload_n 2, 1) := by decide +kernel
theorem dL_off_3 : decode cL_off 3 = .ok (.iload_n 3, 1) := by decide +kernel
theorem dL_off_4 : decode cL_off 4 = .ok (.iload 4, 2) := by decide +kernel
theorem dL_off_6 : decode cL_off 6 = .ok (.iconst 0, 1) := by decide +kernel
theorem dL_off_7 : decode cL_off 7 = .ok (.invokestatic 123, 3) := by decide +kernel
theorem dL_off_10 : decode cL_off 10 = .ok (.ldc 111, 2) := by decide +kernel
theorem dL_off_12 : decode cL_off 12 = .ok (.if_icmp .ne 7, 3) := by decide +kernel
theorem dL_off_15 : decode cL_off 15 = .ok (.iconst 1, 1) := by decide +kernel
theorem dL_off_16 : decode cL_off 16 = .ok (.goto 4, 3) := by decide +kernel
theorem dL_off_19 : decode cL_off 19 = .ok (.iconst 0, 1) := by decide +kernel
theorem dL_off_20 : decode cL_off 20 = .ok (.ireturn, 1) := by decide +kernel
theorem dL_bars_0 : decode cL_bars 0 = .ok (.aload_n 0, 1) := by decide +kernel
theorem dL_bars_1 : decode cL_bars 1 = .ok (.iload_n 1, 1) := by decide +kernel
theorem dL_bars_2 : decode cL_bars 2 = .ok (.iload_n 2, 1) := by decide +kernel
theorem dL_bars_3 : decode cL_bars 3 = .ok (.iload_n 3, 1) := by decide +kernel
theorem dL_bars_4 : decode cL_bars 4 = .ok (.iload 4, 2) := by decide +kernel
theorem dL_bars_6 : decode cL_bars 6 = .ok (.iconst 1, 1) := by decide +kernel
theorem dL_bars_7 : decode cL_bars 7 = .ok (.invokestatic 123, 3) := by decide +kernel
theorem dL_bars_10 : decode cL_bars 10 = .ok (.ldc 114, 2) := by decide +kernel
theorem dL_bars_12 : decode cL_bars 12 = .ok (.if_icmp .ne 7, 3) := by decide +kernel
theorem dL_bars_15 : decode cL_bars 15 = .ok (.iconst 1, 1) := by decide +kernel
theorem dL_bars_16 : decode cL_bars 16 = .ok (.goto 4, 3) := by decide +kernel
theorem dL_bars_19 : decode cL_bars 19 = .ok (.iconst 0, 1) := by decide +kernel
theorem dL_bars_20 : decode cL_bars 20 = .ok (.ireturn, 1) := by decide +kernel
theorem dL_all_0 : decode cL_all 0 = .ok (.aload_n 0, 1) := by decide +kernel
theorem dL_all_1 : decode cL_all 1 = .ok (.invokevirtual 127, 3) := by decide +kernel
theorem dL_all_4 : decode cL_all 4 = .ok (.i2l, 1) := by decide +kernel
theorem dL_all_5 : decode cL_all 5 = .ok (.lstore_n 2, 1) := by decide +kernel
theorem dL_all_6 : decode cL_all 6 = .ok (.iconst 0, 1) := by decide +kernel
theorem dL_all_7 : decode cL_all 7 = .ok (.istore 4, 2) := by decide +kernel
theorem dL_all_9 : decode cL_all 9 = .ok (.iload 4, 2) := by decide +kernel
theorem dL_all_11 : decode cL_all 11 = .ok (.bipush 40, 2) := by decide +kernel
theorem dL_all_13 : decode cL_all 13 = .ok (.if_icmp .ge 68, 3) := by decide +kernel
theorem dL_all_16 : decode cL_all 16 = .ok (.ldc2_w 131, 3) := by decide +kernel
theorem dL_all_19 : decode cL_all 19 = .ok (.lload_n 2, 1) := by decide +kernel
theorem dL_all_20 : decode cL_all 20 = .ok (.lmul, 1) := by decide +kernel
theorem dL_all_21 : decode cL_all 21 = .ok (.aload_n 0, 1) := by decide +kernel
theorem dL_all_22 : decode cL_all 22 = .ok (.iload 4, 2) := by decide +kernel
theorem dL_all_24 : decode cL_all 24 = .ok (.invokevirtual 39, 3) := by decide +kernel
theorem dL_all_27 : decode cL_all 27 = .ok (.i2l, 1) := by decide +kernel
theorem dL_all_28 : decode cL_all 28 = .ok (.ladd, 1) := by decide +kernel
theorem dL_all_29 : decode cL_all 29 = .ok (.ldc2_w 133, 3) := by decide +kernel
theorem dL_all_32 : decode cL_all 32 = .ok (.aload_n 0, 1) := by decide +kernel
theorem dL_all_33 : decode cL_all 33 = .ok (.iload 4, 2) := by decide +kernel
theorem dL_all_35 : decode cL_all 35 = .ok (.invokevirtual 79, 3) := by decide +kernel
theorem dL_all_38 : decode cL_all 38 = .ok (.i2l, 1) := by decide +kernel
theorem dL_all_39 : decode cL_all 39 = .ok (.lmul, 1) := by decide +kernel
theorem dL_all_40 : decode cL_all 40 = .ok (.ladd, 1) := by decide +kernel
theorem dL_all_41 : decode cL_all 41 = .ok (.ldc2_w 135, 3) := by decide +kernel
theorem dL_all_44 : decode cL_all 44 = .ok (.aload_n 0, 1) := by decide +kernel
theorem dL_all_45 : decode cL_all 45 = .ok (.iload 4, 2) := by decide +kernel
theorem dL_all_47 : decode cL_all 47 = .ok (.invokevirtual 97, 3) := by decide +kernel
theorem dL_all_50 : decode cL_all 50 = .ok (.i2l, 1) := by decide +kernel
theorem dL_all_51 : decode cL_all 51 = .ok (.lmul, 1) := by decide +kernel
theorem dL_all_52 : decode cL_all 52 = .ok (.ladd, 1) := by decide +kernel
theorem dL_all_53 : decode cL_all 53 = .ok (.aload_n 0, 1) := by decide +kernel
theorem dL_all_54 : decode cL_all 54 = .ok (.iload 4, 2) := by decide +kernel
theorem dL_all_56 : decode cL_all 56 = .ok (.iconst 5, 1) := by decide +kernel
theorem dL_all_57 : decode cL_all 57 = .ok (.irem, 1) := by decide +kernel
theorem dL_all_58 : decode cL_all 58 = .ok (.invokevirtual 91, 3) := by decide +kernel
theorem dL_all_61 : decode cL_all 61 = .ok (.i2l, 1) := by decide +kernel
theorem dL_all_62 : decode cL_all 62 = .ok (.ladd, 1) := by decide +kernel
theorem dL_all_63 : decode cL_all 63 = .ok (.aload_n 0, 1) := by decide +kernel
theorem dL_all_64 : decode cL_all 64 = .ok (.iload 4, 2) := by decide +kernel
theorem dL_all_66 : decode cL_all 66 = .ok (.bipush 6, 2) := by decide +kernel
theorem dL_all_68 : decode cL_all 68 = .ok (.irem, 1) := by decide +kernel
theorem dL_all_69 : decode cL_all 69 = .ok (.invokevirtual 94, 3) := by decide +kernel
theorem dL_all_72 : decode cL_all 72 = .ok (.i2l, 1) := by decide +kernel
theorem dL_all_73 : decode cL_all 73 = .ok (.ladd, 1) := by decide +kernel
theorem dL_all_74 : decode cL_all 74 = .ok (.lstore_n 2, 1) := by decide +kernel
theorem dL_all_75 : decode cL_all 75 = .ok (.iinc 4 1, 3) := by decide +kernel
theorem dL_all_78 : decode cL_all 78 = .ok (.goto (-69), 3) := by decide +kernel
theorem dL_all_81 : decode cL_all 81 = .ok (.iconst 0, 1) := by decide +kernel
theorem dL_all_82 : decode cL_all 82 = .ok (.istore 4, 2) := by decide +kernel
theorem dL_all_84 : decode cL_all 84 = .ok (.iload 4, 2) := by decide +kernel
theorem dL_all_86 : decode cL_all 86 = .ok (.bipush 8, 2) := by decide +kernel
theorem dL_all_88 : decode cL_all 88 = .ok (.aload_n 1, 1) := by decide +kernel
theorem dL_all_89 : decode cL_all 89 = .ok (.iconst 0, 1) := by decide +kernel
theorem dL_all_90 : decode cL_all 90 = .ok (.iaload, 1) := by decide +kernel
theorem dL_all_91 : decode cL_all 91 = .ok (.imul, 1) := by decide +kernel
theorem dL_all_92 : decode cL_all 92 = .ok (.if_icmp .ge 31, 3) := by decide +kernel
theorem dL_all_95 : decode cL_all 95 = .ok (.ldc2_w 131, 3) := by decide +kernel
theorem dL_all_98 : decode cL_all 98 = .ok (.lload_n 2, 1) := by decide +kernel
theorem dL_all_99 : decode cL_all 99 = .ok (.lmul, 1) := by decide +kernel
theorem dL_all_100 : decode cL_all 100 = .ok (.aload_n 0, 1) := by decide +kernel
theorem dL_all_101 : decode cL_all 101 = .ok (.iload 4, 2) := by decide +kernel
theorem dL_all_103 : decode cL_all 103 = .ok (.bipush 8, 2) := by decide +kernel
theorem dL_all_105 : decode cL_all 105 = .ok (.idiv, 1) := by decide +kernel
theorem dL_all_106 : decode cL_all 106 = .ok (.iload 4, 2) := by decide +kernel
theorem dL_all_108 : decode cL_all 108 = .ok (.bipush 8, 2) := by decide +kernel
theorem dL_all_110 : decode cL_all 110 = .ok (.irem, 1) := by decide +kernel
theorem dL_all_111 : decode cL_all 111 = .ok (.invokevirtual 85, 3) := by decide +kernel
theorem dL_all_114 : decode cL_all 114 = .ok (.i2l, 1) := by decide +kernel
theorem dL_all_115 : decode cL_all 115 = .ok (.ladd, 1) := by decide +kernel
theorem dL_all_116 : decode cL_all 116 = .ok (.lstore_n 2, 1) := by decide +kernel
theorem dL_all_117 : decode cL_all 117 = .ok (.iinc 4 1, 3) := by decide +kernel
theorem dL_all_120 : decode cL_all 120 = .ok (.goto (-36), 3) := by decide +kernel
theorem dL_all_123 : decode cL_all 123 = .ok (.iconst 0, 1) := by decide +kernel
theorem dL_all_124 : decode cL_all 124 = .ok (.istore 4, 2) := by decide +kernel
theorem dL_all_126 : decode cL_all 126 = .ok (.iload 4, 2) := by decide +kernel
theorem dL_all_128 : decode cL_all 128 = .ok (.bipush 6, 2) := by decide +kernel
theorem dL_all_130 : decode cL_all 130 = .ok (.aload_n 1, 1) := by decide +kernel
theorem dL_all_131 : decode cL_all 131 = .ok (.iconst 1, 1) := by decide +kernel
theorem dL_all_132 : decode cL_all 132 = .ok (.iaload, 1) := by decide +kernel
theorem dL_all_133 : decode cL_all 133 = .ok (.imul, 1) := by decide +kernel
theorem dL_all_134 : decode cL_all 134 = .ok (.if_icmp .ge 31, 3) := by decide +kernel
theorem dL_all_137 : decode cL_all 137 = .ok (.ldc2_w 131, 3) := by decide +kernel
theorem dL_all_140 : decode cL_all 140 = .ok (.lload_n 2, 1) := by decide +kernel
theorem dL_all_141 : decode cL_all 141 = .ok (.lmul, 1) := by decide +kernel
theorem dL_all_142 : decode cL_all 142 = .ok (.aload_n 0, 1) := by decide +kernel
theorem dL_all_143 : decode cL_all 143 = .ok (.iload 4, 2) := by decide +kernel
theorem dL_all_145 : decode cL_all 145 = .ok (.bipush 6, 2) := by decide +kernel
theorem dL_all_147 : decode cL_all 147 = .ok (.idiv, 1) := by decide +kernel
theorem dL_all_148 : decode cL_all 148 = .ok (.iload 4, 2) := by decide +kernel
theorem dL_all_150 : decode cL_all 150 = .ok (.bipush 6, 2) := by decide +kernel
theorem dL_all_152 : decode cL_all 152 = .ok (.irem, 1) := by decide +kernel
theorem dL_all_153 : decode cL_all 153 = .ok (.invokevirtual 82, 3) := by decide +kernel
theorem dL_all_156 : decode cL_all 156 = .ok (.i2l, 1) := by decide +kernel
theorem dL_all_157 : decode cL_all 157 = .ok (.ladd, 1) := by decide +kernel
theorem dL_all_158 : decode cL_all 158 = .ok (.lstore_n 2, 1) := by decide +kernel
theorem dL_all_159 : decode cL_all 159 = .ok (.iinc 4 1, 3) := by decide +kernel
theorem dL_all_162 : decode cL_all 162 = .ok (.goto (-36), 3) := by decide +kernel
theorem dL_all_165 : decode cL_all 165 = .ok (.lload_n 2, 1) := by decide +kernel
theorem dL_all_166 : decode cL_all 166 = .ok (.lreturn, 1) := by decide +kernel
theorem dL_isPlanned_0 : decode cL_isPlanned 0 = .ok (.aload_n 0, 1) := by decide +kernel
theorem dL_isPlanned_1 : decode cL_isPlanned 1 = .ok (.iload_n 2, 1) := by decide +kernel
theorem dL_isPlanned_2 : decode cL_isPlanned 2 = .ok (.iconst 2, 1) := by decide +kernel
theorem dL_isPlanned_3 : decode cL_isPlanned 3 = .ok (.invokevirtual 82, 3) := by decide +kernel
theorem dL_isPlanned_6 : decode cL_isPlanned 6 = .ok (.istore 5, 2) := by decide +kernel
theorem dL_isPlanned_8 : decode cL_isPlanned 8 = .ok (.aload_n 0, 1) := by decide +kernel
theorem dL_isPlanned_9 : decode cL_isPlanned 9 = .ok (.iload_n 2, 1) := by decide +kernel
theorem dL_isPlanned_10 : decode cL_isPlanned 10 = .ok (.iconst 1, 1) := by decide +kernel
theorem dL_isPlanned_11 : decode cL_isPlanned 11 = .ok (.invokevirtual 82, 3) := by decide +kernel
theorem dL_isPlanned_14 : decode cL_isPlanned 14 = .ok (.istore 6, 2) := by decide +kernel
theorem dL_isPlanned_16 : decode cL_isPlanned 16 = .ok (.aload_n 0, 1) := by decide +kernel
theorem dL_isPlanned_17 : decode cL_isPlanned 17 = .ok (.bipush 27, 2) := by decide +kernel
theorem dL_isPlanned_19 : decode cL_isPlanned 19 = .ok (.iload_n 2, 1) := by decide +kernel
theorem dL_isPlanned_20 : decode cL_isPlanned 20 = .ok (.iload_n 3, 1) := by decide +kernel
theorem dL_isPlanned_21 : decode cL_isPlanned 21 = .ok (.iconst 0, 1) := by decide +kernel
theorem dL_isPlanned_22 : decode cL_isPlanned 22 = .ok (.iconst 0, 1) := by decide +kernel
theorem dL_isPlanned_23 : decode cL_isPlanned 23 = .ok (.invokestatic 123, 3) := by decide +kernel
theorem dL_isPlanned_26 : decode cL_isPlanned 26 = .ok (.istore 7, 2) := by decide +kernel
theorem dL_isPlanned_28 : decode cL_isPlanned 28 = .ok (.iload 5, 2) := by decide +kernel
theorem dL_isPlanned_30 : decode cL_isPlanned 30 = .ok (.iconst 5, 1) := by decide +kernel
theorem dL_isPlanned_31 : decode cL_isPlanned 31 = .ok (.if_icmp .le 28, 3) := by decide +kernel
theorem dL_isPlanned_34 : decode cL_isPlanned 34 = .ok (.iload 7, 2) := by decide +kernel
theorem dL_isPlanned_36 : decode cL_isPlanned 36 = .ok (.ldc 114, 2) := by decide +kernel
theorem dL_isPlanned_38 : decode cL_isPlanned 38 = .ok (.if_icmp .ne 19, 3) := by decide +kernel
theorem dL_isPlanned_41 : decode cL_isPlanned 41 = .ok (.aload_n 0, 1) := by decide +kernel
theorem dL_isPlanned_42 : decode cL_isPlanned 42 = .ok (.bipush 28, 2) := by decide +kernel
theorem dL_isPlanned_44 : decode cL_isPlanned 44 = .ok (.iload_n 2, 1) := by decide +kernel
theorem dL_isPlanned_45 : decode cL_isPlanned 45 = .ok (.iload_n 3, 1) := by decide +kernel
theorem dL_isPlanned_46 : decode cL_isPlanned 46 = .ok (.iconst 0, 1) := by decide +kernel
theorem dL_isPlanned_47 : decode cL_isPlanned 47 = .ok (.invokestatic 149, 3) := by decide +kernel
theorem dL_isPlanned_50 : decode cL_isPlanned 50 = .ok (.ifCond .eq 7, 3) := by decide +kernel
theorem dL_isPlanned_53 : decode cL_isPlanned 53 = .ok (.iconst 1, 1) := by decide +kernel
theorem dL_isPlanned_54 : decode cL_isPlanned 54 = .ok (.goto 4, 3) := by decide +kernel
theorem dL_isPlanned_57 : decode cL_isPlanned 57 = .ok (.iconst 0, 1) := by decide +kernel
theorem dL_isPlanned_58 : decode cL_isPlanned 58 = .ok (.ireturn, 1) := by decide +kernel
theorem dL_isPlanned_59 : decode cL_isPlanned 59 = .ok (.iload 7, 2) := by decide +kernel
theorem dL_isPlanned_61 : decode cL_isPlanned 61 = .ok (.ifCond .lt 53, 3) := by decide +kernel
theorem dL_isPlanned_64 : decode cL_isPlanned 64 = .ok (.aload_n 0, 1) := by decide +kernel
theorem dL_isPlanned_65 : decode cL_isPlanned 65 = .ok (.bipush 28, 2) := by decide +kernel
theorem dL_isPlanned_67 : decode cL_isPlanned 67 = .ok (.iload_n 2, 1) := by decide +kernel
theorem dL_isPlanned_68 : decode cL_isPlanned 68 = .ok (.iload_n 3, 1) := by decide +kernel
theorem dL_isPlanned_69 : decode cL_isPlanned 69 = .ok (.iload 5, 2) := by decide +kernel
theorem dL_isPlanned_71 : decode cL_isPlanned 71 = .ok (.iload 4, 2) := by decide +kernel
theorem dL_isPlanned_73 : decode cL_isPlanned 73 = .ok (.bipush 9, 2) := by decide +kernel
theorem dL_isPlanned_75 : decode cL_isPlanned 75 = .ok (.irem, 1) := by decide +kernel
theorem dL_isPlanned_76 : decode cL_isPlanned 76 = .ok (.iadd, 1) := by decide +kernel
theorem dL_isPlanned_77 : decode cL_isPlanned 77 = .ok (.iconst 0, 1) := by decide +kernel
theorem dL_isPlanned_78 : decode cL_isPlanned 78 = .ok (.invokestatic 123, 3) := by decide +kernel
theorem dL_isPlanned_81 : decode cL_isPlanned 81 = .ok (.iconst (-1), 1) := by decide +kernel
theorem dL_isPlanned_82 : decode cL_isPlanned 82 = .ok (.if_icmp .ne 32, 3) := by decide +kernel
theorem dL_isPlanned_85 : decode cL_isPlanned 85 = .ok (.aload_n 0, 1) := by decide +kernel
theorem dL_isPlanned_86 : decode cL_isPlanned 86 = .ok (.bipush 28, 2) := by decide +kernel
theorem dL_isPlanned_88 : decode cL_isPlanned 88 = .ok (.iload_n 2, 1) := by decide +kernel
theorem dL_isPlanned_89 : decode cL_isPlanned 89 = .ok (.iload_n 3, 1) := by decide +kernel
theorem dL_isPlanned_90 : decode cL_isPlanned 90 = .ok (.iload 4, 2) := by decide +kernel
theorem dL_isPlanned_92 : decode cL_isPlanned 92 = .ok (.iload 5, 2) := by decide +kernel
theorem dL_isPlanned_94 : decode cL_isPlanned 94 = .ok (.irem, 1) := by decide +kernel
theorem dL_isPlanned_95 : decode cL_isPlanned 95 = .ok (.iconst 0, 1) := by decide +kernel
theorem dL_isPlanned_96 : decode cL_isPlanned 96 = .ok (.invokestatic 123, 3) := by decide +kernel
theorem dL_isPlanned_99 : decode cL_isPlanned 99 = .ok (.iload 6, 2) := by decide +kernel
theorem dL_isPlanned_101 : decode cL_isPlanned 101 = .ok (.iload 4, 2) := by decide +kernel
theorem dL_isPlanned_103 : decode cL_isPlanned 103 = .ok (.iload 5, 2) := by decide +kernel
theorem dL_isPlanned_105 : decode cL_isPlanned 105 = .ok (.irem, 1) := by decide +kernel
theorem dL_isPlanned_106 : decode cL_isPlanned 106 = .ok (.iadd, 1) := by decide +kernel
theorem dL_isPlanned_107 : decode cL_isPlanned 107 = .ok (.if_icmp .ne 7, 3) := by decide +kernel
theorem dL_isPlanned_110 : decode cL_isPlanned 110 = .ok (.iconst 1, 1) := by decide +kernel
theorem dL_isPlanned_111 : decode cL_isPlanned 111 = .ok (.goto 4, 3) := by decide +kernel
theorem dL_isPlanned_114 : decode cL_isPlanned 114 = .ok (.iconst 0, 1) := by decide +kernel
theorem dL_isPlanned_115 : decode cL_isPlanned 115 = .ok (.istore 8, 2) := by decide +kernel
theorem dL_isPlanned_117 : decode cL_isPlanned 117 = .ok (.iconst 0, 1) := by decide +kernel
theorem dL_isPlanned_118 : decode cL_isPlanned 118 = .ok (.istore 9, 2) := by decide +kernel
theorem dL_isPlanned_120 : decode cL_isPlanned 120 = .ok (.iconst 0, 1) := by decide +kernel
theorem dL_isPlanned_121 : decode cL_isPlanned 121 = .ok (.istore 10, 2) := by decide +kernel
theorem dL_isPlanned_123 : decode cL_isPlanned 123 = .ok (.iload 10, 2) := by decide +kernel
theorem dL_isPlanned_125 : decode cL_isPlanned 125 = .ok (.iload 5, 2) := by decide +kernel
theorem dL_isPlanned_127 : decode cL_isPlanned 127 = .ok (.if_icmp .ge 28, 3) := by decide +kernel
theorem dL_isPlanned_130 : decode cL_isPlanned 130 = .ok (.iload 9, 2) := by decide +kernel
theorem dL_isPlanned_132 : decode cL_isPlanned 132 = .ok (.bipush 100, 2) := by decide +kernel
theorem dL_isPlanned_134 : decode cL_isPlanned 134 = .ok (.aload_n 0, 1) := by decide +kernel
theorem dL_isPlanned_135 : decode cL_isPlanned 135 = .ok (.iload 6, 2) := by decide +kernel
theorem dL_isPlanned_137 : decode cL_isPlanned 137 = .ok (.iload 10, 2) := by decide +kernel
theorem dL_isPlanned_139 : decode cL_isPlanned 139 = .ok (.iadd, 1) := by decide +kernel
theorem dL_isPlanned_140 : decode cL_isPlanned 140 = .ok (.invokevirtual 39, 3) := by decide +kernel
theorem dL_isPlanned_143 : decode cL_isPlanned 143 = .ok (.iconst 1, 1) := by decide +kernel
theorem dL_isPlanned_144 : decode cL_isPlanned 144 = .ok (.iadd, 1) := by decide +kernel
theorem dL_isPlanned_145 : decode cL_isPlanned 145 = .ok (.imul, 1) := by decide +kernel
theorem dL_isPlanned_146 : decode cL_isPlanned 146 = .ok (.iadd, 1) := by decide +kernel
theorem dL_isPlanned_147 : decode cL_isPlanned 147 = .ok (.istore 9, 2) := by decide +kernel
theorem dL_isPlanned_149 : decode cL_isPlanned 149 = .ok (.iinc 10 1, 3) := by decide +kernel
theorem dL_isPlanned_152 : decode cL_isPlanned 152 = .ok (.goto (-29), 3) := by decide +kernel
theorem dL_isPlanned_155 : decode cL_isPlanned 155 = .ok (.iload 8, 2) := by decide +kernel
theorem dL_isPlanned_157 : decode cL_isPlanned 157 = .ok (.ifCond .eq 28, 3) := by decide +kernel
theorem dL_isPlanned_160 : decode cL_isPlanned 160 = .ok (.iload 7, 2) := by decide +kernel
theorem dL_isPlanned_162 : decode cL_isPlanned 162 = .ok (.iload 9, 2) := by decide +kernel
theorem dL_isPlanned_164 : decode cL_isPlanned 164 = .ok (.if_icmp .gt 21, 3) := by decide +kernel
theorem dL_isPlanned_167 : decode cL_isPlanned 167 = .ok (.iload_n 3, 1) := by decide +kernel
theorem dL_isPlanned_168 : decode cL_isPlanned 168 = .ok (.ifCond .gt 13, 3) := by decide +kernel
theorem dL_isPlanned_171 : decode cL_isPlanned 171 = .ok (.iload 7, 2) := by decide +kernel
theorem dL_isPlanned_173 : decode cL_isPlanned 173 = .ok (.bipush 18, 2) := by decide +kernel
theorem dL_isPlanned_175 : decode cL_isPlanned 175 = .ok (.iload 5, 2) := by decide +kernel
theorem dL_isPlanned_177 : decode cL_isPlanned 177 = .ok (.imul, 1) := by decide +kernel
theorem dL_isPlanned_178 : decode cL_isPlanned 178 = .ok (.if_icmp .gt 7, 3) := by decide +kernel
theorem dL_isPlanned_181 : decode cL_isPlanned 181 = .ok (.iconst 1, 1) := by decide +kernel
theorem dL_isPlanned_182 : decode cL_isPlanned 182 = .ok (.goto 4, 3) := by decide +kernel
theorem dL_isPlanned_185 : decode cL_isPlanned 185 = .ok (.iconst 0, 1) := by decide +kernel
theorem dL_isPlanned_186 : decode cL_isPlanned 186 = .ok (.ireturn, 1) := by decide +kernel
theorem dL_isPassed_0 : decode cL_isPassed 0 = .ok (.iconst 1, 1) := by decide +kernel
theorem dL_isPassed_1 : decode cL_isPassed 1 = .ok (.iload_n 2, 1) := by decide +kernel
theorem dL_isPassed_2 : decode cL_isPassed 2 = .ok (.iload_n 2, 1) := by decide +kernel
theorem dL_isPassed_3 : decode cL_isPassed 3 = .ok (.bipush 9, 2) := by decide +kernel
theorem dL_isPassed_5 : decode cL_isPassed 5 = .ok (.irem, 1) := by decide +kernel
theorem dL_isPassed_6 : decode cL_isPassed 6 = .ok (.ifCond .ne 8, 3) := by decide +kernel
theorem dL_isPassed_9 : decode cL_isPassed 9 = .ok (.bipush 40, 2) := by decide +kernel
theorem dL_isPassed_11 : decode cL_isPassed 11 = .ok (.goto 4, 3) := by decide +kernel
theorem dL_isPassed_14 : decode cL_isPassed 14 = .ok (.iconst 3, 1) := by decide +kernel
theorem dL_isPassed_15 : decode cL_isPassed 15 = .ok (.irem, 1) := by decide +kernel
theorem dL_isPassed_16 : decode cL_isPassed 16 = .ok (.iadd, 1) := by decide +kernel
theorem dL_isPassed_17 : decode cL_isPassed 17 = .ok (.istore_n 3, 1) := by decide +kernel
theorem dL_isPassed_18 : decode cL_isPassed 18 = .ok (.iload_n 2, 1) := by decide +kernel
theorem dL_isPassed_19 : decode cL_isPassed 19 = .ok (.bipush 9, 2) := by decide +kernel
theorem dL_isPassed_21 : decode cL_isPassed 21 = .ok (.idiv, 1) := by decide +kernel
theorem dL_isPassed_22 : decode cL_isPassed 22 = .ok (.bipush 40, 2) := by decide +kernel
theorem dL_isPassed_24 : decode cL_isPassed 24 = .ok (.irem, 1) := by decide +kernel
theorem dL_isPassed_25 : decode cL_isPassed 25 = .ok (.istore 4, 2) := by decide +kernel
theorem dL_isPassed_27 : decode cL_isPassed 27 = .ok (.aload_n 0, 1) := by decide +kernel
theorem dL_isPassed_28 : decode cL_isPassed 28 = .ok (.iload 4, 2) := by decide +kernel
theorem dL_isPassed_30 : decode cL_isPassed 30 = .ok (.invokevirtual 97, 3) := by decide +kernel
theorem dL_isPassed_33 : decode cL_isPassed 33 = .ok (.istore 5, 2) := by decide +kernel
theorem dL_isPassed_35 : decode cL_isPassed 35 = .ok (.aload_n 0, 1) := by decide +kernel
theorem dL_isPassed_36 : decode cL_isPassed 36 = .ok (.invokevirtual 127, 3) := by decide +kernel
theorem dL_isPassed_39 : decode cL_isPassed 39 = .ok (.istore 6, 2) := by decide +kernel
theorem dL_isPassed_41 : decode cL_isPassed 41 = .ok (.iconst 0, 1) := by decide +kernel
theorem dL_isPassed_42 : decode cL_isPassed 42 = .ok (.istore 7, 2) := by decide +kernel
theorem dL_isPassed_44 : decode cL_isPassed 44 = .ok (.iconst 0, 1) := by decide +kernel
theorem dL_isPassed_45 : decode cL_isPassed 45 = .ok (.istore 8, 2) := by decide +kernel
theorem dL_isPassed_47 : decode cL_isPassed 47 = .ok (.iload 8, 2) := by decide +kernel
theorem dL_isPassed_49 : decode cL_isPassed 49 = .ok (.aload_n 1, 1) := by decide +kernel
theorem dL_isPassed_50 : decode cL_isPassed 50 = .ok (.iconst 1, 1) := by decide +kernel
theorem dL_isPassed_51 : decode cL_isPassed 51 = .ok (.iaload, 1) := by decide +kernel
theorem dL_isPassed_52 : decode cL_isPassed 52 = .ok (.if_icmp .ge 21, 3) := by decide +kernel
theorem dL_isPassed_55 : decode cL_isPassed 55 = .ok (.iload 7, 2) := by decide +kernel
theorem dL_isPassed_57 : decode cL_isPassed 57 = .ok (.aload_n 0, 1) := by decide +kernel
theorem dL_isPassed_58 : decode cL_isPassed 58 = .ok (.iload 8, 2) := by decide +kernel
theorem dL_isPassed_60 : decode cL_isPassed 60 = .ok (.iconst 3, 1) := by decide +kernel
theorem dL_isPassed_61 : decode cL_isPassed 61 = .ok (.invokevirtual 82, 3) := by decide +kernel
theorem dL_isPassed_64 : decode cL_isPassed 64 = .ok (.iadd, 1) := by decide +kernel
theorem dL_isPassed_65 : decode cL_isPassed 65 = .ok (.istore 7, 2) := by decide +kernel
theorem dL_isPassed_67 : decode cL_isPassed 67 = .ok (.iinc 8 1, 3) := by decide +kernel
theorem dL_isPassed_70 : decode cL_isPassed 70 = .ok (.goto (-23), 3) := by decide +kernel
theorem dL_isPassed_73 : decode cL_isPassed 73 = .ok (.aload_n 0, 1) := by decide +kernel
theorem dL_isPassed_74 : decode cL_isPassed 74 = .ok (.iconst 3, 1) := by decide +kernel
theorem dL_isPassed_75 : decode cL_isPassed 75 = .ok (.iload_n 3, 1) := by decide +kernel
theorem dL_isPassed_76 : decode cL_isPassed 76 = .ok (.iconst 0, 1) := by decide +kernel
theorem dL_isPassed_77 : decode cL_isPassed 77 = .ok (.iconst 0, 1) := by decide +kernel
theorem dL_isPassed_78 : decode cL_isPassed 78 = .ok (.iconst 0, 1) := by decide +kernel
theorem dL_isPassed_79 : decode cL_isPassed 79 = .ok (.invokestatic 123, 3) := by decide +kernel
theorem dL_isPassed_82 : decode cL_isPassed 82 = .ok (.iload 6, 2) := by decide +kernel
theorem dL_isPassed_84 : decode cL_isPassed 84 = .ok (.iload_n 3, 1) := by decide +kernel
theorem dL_isPassed_85 : decode cL_isPassed 85 = .ok (.iadd, 1) := by decide +kernel
theorem dL_isPassed_86 : decode cL_isPassed 86 = .ok (.sipush 5000, 3) := by decide +kernel
theorem dL_isPassed_89 : decode cL_isPassed 89 = .ok (.if_icmp .le 8, 3) := by decide +kernel
theorem dL_isPassed_92 : decode cL_isPassed 92 = .ok (.ldc 114, 2) := by decide +kernel
theorem dL_isPassed_94 : decode cL_isPassed 94 = .ok (.goto 7, 3) := by decide +kernel
theorem dL_isPassed_97 : decode cL_isPassed 97 = .ok (.iload 6, 2) := by decide +kernel
theorem dL_isPassed_99 : decode cL_isPassed 99 = .ok (.iload_n 3, 1) := by decide +kernel
theorem dL_isPassed_100 : decode cL_isPassed 100 = .ok (.iadd, 1) := by decide +kernel
theorem dL_isPassed_101 : decode cL_isPassed 101 = .ok (.if_icmp .ne 7, 3) := by decide +kernel
theorem dL_isPassed_104 : decode cL_isPassed 104 = .ok (.iconst 1, 1) := by decide +kernel
theorem dL_isPassed_105 : decode cL_isPassed 105 = .ok (.goto 4, 3) := by decide +kernel
theorem dL_isPassed_108 : decode cL_isPassed 108 = .ok (.iconst 0, 1) := by decide +kernel
theorem dL_isPassed_109 : decode cL_isPassed 109 = .ok (.istore 8, 2) := by decide +kernel
theorem dL_isPassed_111 : decode cL_isPassed 111 = .ok (.iconst 0, 1) := by decide +kernel
theorem dL_isPassed_112 : decode cL_isPassed 112 = .ok (.istore 9, 2) := by decide +kernel
theorem dL_isPassed_114 : decode cL_isPassed 114 = .ok (.iload 9, 2) := by decide +kernel
theorem dL_isPassed_116 : decode cL_isPassed 116 = .ok (.aload_n 1, 1) := by decide +kernel
theorem dL_isPassed_117 : decode cL_isPassed 117 = .ok (.iconst 1, 1) := by decide +kernel
theorem dL_isPassed_118 : decode cL_isPassed 118 = .ok (.iaload, 1) := by decide +kernel
theorem dL_isPassed_119 : decode cL_isPassed 119 = .ok (.if_icmp .ge 21, 3) := by decide +kernel
theorem dL_isPassed_122 : decode cL_isPassed 122 = .ok (.iload 7, 2) := by decide +kernel
theorem dL_isPassed_124 : decode cL_isPassed 124 = .ok (.aload_n 0, 1) := by decide +kernel
theorem dL_isPassed_125 : decode cL_isPassed 125 = .ok (.iload 9, 2) := by decide +kernel
theorem dL_isPassed_127 : decode cL_isPassed 127 = .ok (.iconst 3, 1) := by decide +kernel
theorem dL_isPassed_128 : decode cL_isPassed 128 = .ok (.invokevirtual 82, 3) := by decide +kernel
theorem dL_isPassed_131 : decode cL_isPassed 131 = .ok (.isub, 1) := by decide +kernel
theorem dL_isPassed_132 : decode cL_isPassed 132 = .ok (.istore 7, 2) := by decide +kernel
theorem dL_isPassed_134 : decode cL_isPassed 134 = .ok (.iinc 9 1, 3) := by decide +kernel
theorem dL_isPassed_137 : decode cL_isPassed 137 = .ok (.goto (-23), 3) := by decide +kernel
theorem dL_isPassed_140 : decode cL_isPassed 140 = .ok (.iload 8, 2) := by decide +kernel
theorem dL_isPassed_142 : decode cL_isPassed 142 = .ok (.ifCond .eq 49, 3) := by decide +kernel
theorem dL_isPassed_145 : decode cL_isPassed 145 = .ok (.iload 7, 2) := by decide +kernel
theorem dL_isPassed_147 : decode cL_isPassed 147 = .ok (.ifCond .lt 44, 3) := by decide +kernel
theorem dL_isPassed_150 : decode cL_isPassed 150 = .ok (.aload_n 0, 1) := by decide +kernel
theorem dL_isPassed_151 : decode cL_isPassed 151 = .ok (.invokevirtual 127, 3) := by decide +kernel
theorem dL_isPassed_154 : decode cL_isPassed 154 = .ok (.iload 6, 2) := by decide +kernel
theorem dL_isPassed_156 : decode cL_isPassed 156 = .ok (.if_icmp .eq 31, 3) := by decide +kernel
theorem dL_isPassed_159 : decode cL_isPassed 159 = .ok (.iload 5, 2) := by decide +kernel
theorem dL_isPassed_161 : decode cL_isPassed 161 = .ok (.ifCond .ne 15, 3) := by decide +kernel
theorem dL_isPassed_164 : decode cL_isPassed 164 = .ok (.aload_n 0, 1) := by decide +kernel
theorem dL_isPassed_165 : decode cL_isPassed 165 = .ok (.iload 4, 2) := by decide +kernel
theorem dL_isPassed_167 : decode cL_isPassed 167 = .ok (.invokevirtual 97, 3) := by decide +kernel
theorem dL_isPassed_170 : decode cL_isPassed 170 = .ok (.ifCond .ne 21, 3) := by decide +kernel
theorem dL_isPassed_173 : decode cL_isPassed 173 = .ok (.goto 14, 3) := by decide +kernel
theorem dL_isPassed_176 : decode cL_isPassed 176 = .ok (.aload_n 0, 1) := by decide +kernel
theorem dL_isPassed_177 : decode cL_isPassed 177 = .ok (.iload 4, 2) := by decide +kernel
theorem dL_isPassed_179 : decode cL_isPassed 179 = .ok (.invokevirtual 97, 3) := by decide +kernel
theorem dL_isPassed_182 : decode cL_isPassed 182 = .ok (.iload 5, 2) := by decide +kernel
theorem dL_isPassed_184 : decode cL_isPassed 184 = .ok (.if_icmp .ge 7, 3) := by decide +kernel
theorem dL_isPassed_187 : decode cL_isPassed 187 = .ok (.iconst 1, 1) := by decide +kernel
theorem dL_isPassed_188 : decode cL_isPassed 188 = .ok (.goto 4, 3) := by decide +kernel
theorem dL_isPassed_191 : decode cL_isPassed 191 = .ok (.iconst 0, 1) := by decide +kernel
theorem dL_isPassed_192 : decode cL_isPassed 192 = .ok (.ireturn, 1) := by decide +kernel
theorem dL_law_0 : decode cL_law 0 = .ok (.new 10, 3) := by decide +kernel
theorem dL_law_3 : decode cL_law 3 = .ok (.dup, 1) := by decide +kernel
theorem dL_law_4 : decode cL_law 4 = .ok (.invokespecial 154, 3) := by decide +kernel
theorem dL_law_7 : decode cL_law 7 = .ok (.astore_n 1, 1) := by decide +kernel
theorem dL_law_8 : decode cL_law 8 = .ok (.bipush 6, 2) := by decide +kernel
theorem dL_law_10 : decode cL_law 10 = .ok (.newarray .int, 2) := by decide +kernel
theorem dL_law_12 : decode cL_law 12 = .ok (.astore_n 2, 1) := by decide +kernel
theorem dL_law_13 : decode cL_law 13 = .ok (.bipush 20, 2) := by decide +kernel
theorem dL_law_15 : decode cL_law 15 = .ok (.newarray .int, 2) := by decide +kernel
theorem dL_law_17 : decode cL_law 17 = .ok (.astore_n 3, 1) := by decide +kernel
theorem dL_law_18 : decode cL_law 18 = .ok (.bipush 24, 2) := by decide +kernel
theorem dL_law_20 : decode cL_law 20 = .ok (.newarray .int, 2) := by decide +kernel
theorem dL_law_22 : decode cL_law 22 = .ok (.astore 4, 2) := by decide +kernel
theorem dL_law_24 : decode cL_law 24 = .ok (.bipush 60, 2) := by decide +kernel
theorem dL_law_26 : decode cL_law 26 = .ok (.newarray .int, 2) := by decide +kernel
theorem dL_law_28 : decode cL_law 28 = .ok (.astore 5, 2) := by decide +kernel
theorem dL_law_30 : decode cL_law 30 = .ok (.aload_n 1, 1) := by decide +kernel
theorem dL_law_31 : decode cL_law 31 = .ok (.aload_n 2, 1) := by decide +kernel
theorem dL_law_32 : decode cL_law 32 = .ok (.iconst 0, 1) := by decide +kernel
theorem dL_law_33 : decode cL_law 33 = .ok (.invokestatic 155, 3) := by decide +kernel
theorem dL_law_36 : decode cL_law 36 = .ok (.ifCond .eq 16, 3) := by decide +kernel
theorem dL_law_39 : decode cL_law 39 = .ok (.aload_n 1, 1) := by decide +kernel
theorem dL_law_40 : decode cL_law 40 = .ok (.aload_n 2, 1) := by decide +kernel
theorem dL_law_41 : decode cL_law 41 = .ok (.iconst 1, 1) := by decide +kernel
theorem dL_law_42 : decode cL_law 42 = .ok (.invokestatic 155, 3) := by decide +kernel
theorem dL_law_45 : decode cL_law 45 = .ok (.ifCond .eq 7, 3) := by decide +kernel
theorem dL_law_48 : decode cL_law 48 = .ok (.iconst 1, 1) := by decide +kernel
theorem dL_law_49 : decode cL_law 49 = .ok (.goto 4, 3) := by decide +kernel
theorem dL_law_52 : decode cL_law 52 = .ok (.iconst 0, 1) := by decide +kernel
theorem dL_law_53 : decode cL_law 53 = .ok (.istore 6, 2) := by decide +kernel
theorem dL_law_55 : decode cL_law 55 = .ok (.iconst 0, 1) := by decide +kernel
theorem dL_law_56 : decode cL_law 56 = .ok (.istore 7, 2) := by decide +kernel
theorem dL_law_58 : decode cL_law 58 = .ok (.iload 7, 2) := by decide +kernel
theorem dL_law_60 : decode cL_law 60 = .ok (.sipush 130, 3) := by decide +kernel
theorem dL_law_63 : decode cL_law 63 = .ok (.if_icmp .ge 277, 3) := by decide +kernel
theorem dL_law_66 : decode cL_law 66 = .ok (.iload 6, 2) := by decide +kernel
theorem dL_law_68 : decode cL_law 68 = .ok (.ifCond .eq 272, 3) := by decide +kernel
theorem dL_law_71 : decode cL_law 71 = .ok (.aload_n 0, 1) := by decide +kernel
theorem dL_law_72 : decode cL_law 72 = .ok (.iload 7, 2) := by decide +kernel
theorem dL_law_74 : decode cL_law 74 = .ok (.invokestatic 159, 3) := by decide +kernel
theorem dL_law_77 : decode cL_law 77 = .ok (.istore 8, 2) := by decide +kernel
theorem dL_law_79 : decode cL_law 79 = .ok (.iload 7, 2) := by decide +kernel
theorem dL_law_81 : decode cL_law 81 = .ok (.iconst 3, 1) := by decide +kernel
theorem dL_law_82 : decode cL_law 82 = .ok (.if_icmp .ge 7, 3) := by decide +kernel
theorem dL_law_85 : decode cL_law 85 = .ok (.iconst 0, 1) := by decide +kernel
theorem dL_law_86 : decode cL_law 86 = .ok (.goto 42, 3) := by decide +kernel
theorem dL_law_89 : decode cL_law 89 = .ok (.iload 7, 2) := by decide +kernel
theorem dL_law_91 : decode cL_law 91 = .ok (.bipush 12, 2) := by decide +kernel
theorem dL_law_93 : decode cL_law 93 = .ok (.if_icmp .ge 8, 3) := by decide +kernel
theorem dL_law_96 : decode cL_law 96 = .ok (.bipush 13, 2) := by decide +kernel
theorem dL_law_98 : decode cL_law 98 = .ok (.goto 30, 3) := by decide +kernel
theorem dL_law_101 : decode cL_law 101 = .ok (.iload 7, 2) := by decide +kernel
theorem dL_law_103 : decode cL_law 103 = .ok (.bipush 15, 2) := by decide +kernel
theorem dL_law_105 : decode cL_law 105 = .ok (.if_icmp .ge 7, 3) := by decide +kernel
theorem dL_law_108 : decode cL_law 108 = .ok (.iconst 1, 1) := by decide +kernel
theorem dL_law_109 : decode cL_law 109 = .ok (.goto 19, 3) := by decide +kernel
theorem dL_law_112 : decode cL_law 112 = .ok (.iload 7, 2) := by decide +kernel
theorem dL_law_114 : decode cL_law 114 = .ok (.bipush 17, 2) := by decide +kernel
theorem dL_law_116 : decode cL_law 116 = .ok (.if_icmp .ge 7, 3) := by decide +kernel
theorem dL_law_119 : decode cL_law 119 = .ok (.iconst 4, 1) := by decide +kernel
theorem dL_law_120 : decode cL_law 120 = .ok (.goto 8, 3) := by decide +kernel
theorem dL_law_123 : decode cL_law 123 = .ok (.iload 8, 2) := by decide +kernel
theorem dL_law_125 : decode cL_law 125 = .ok (.bipush 46, 2) := by decide +kernel
theorem dL_law_127 : decode cL_law 127 = .ok (.irem, 1) := by decide +kernel
theorem dL_law_128 : decode cL_law 128 = .ok (.istore 9, 2) := by decide +kernel
theorem dL_law_130 : decode cL_law 130 = .ok (.iload 8, 2) := by decide +kernel
theorem dL_law_132 : decode cL_law 132 = .ok (.bipush 46, 2) := by decide +kernel
theorem dL_law_134 : decode cL_law 134 = .ok (.idiv, 1) := by decide +kernel
theorem dL_law_135 : decode cL_law 135 = .ok (.istore 10, 2) := by decide +kernel
theorem dL_law_137 : decode cL_law 137 = .ok (.iload 9, 2) := by decide +kernel
theorem dL_law_139 : decode cL_law 139 = .ok (.bipush 14, 2) := by decide +kernel
theorem dL_law_141 : decode cL_law 141 = .ok (.if_icmp .ge 18, 3) := by decide +kernel
theorem dL_law_144 : decode cL_law 144 = .ok (.aload_n 1, 1) := by decide +kernel
theorem dL_law_145 : decode cL_law 145 = .ok (.aload_n 2, 1) := by decide +kernel
theorem dL_law_146 : decode cL_law 146 = .ok (.aload_n 3, 1) := by decide +kernel
theorem dL_law_147 : decode cL_law 147 = .ok (.aload 4, 2) := by decide +kernel
theorem dL_law_149 : decode cL_law 149 = .ok (.iload 9, 2) := by decide +kernel
theorem dL_law_151 : decode cL_law 151 = .ok (.iload 10, 2) := by decide +kernel
theorem dL_law_153 : decode cL_law 153 = .ok (.invokestatic 163, 3) := by decide +kernel
theorem dL_law_156 : decode cL_law 156 = .ok (.goto 58, 3) := by decide +kernel
theorem dL_law_159 : decode cL_law 159 = .ok (.iload 9, 2) := by decide +kernel
theorem dL_law_161 : decode cL_law 161 = .ok (.bipush 30, 2) := by decide +kernel
theorem dL_law_163 : decode cL_law 163 = .ok (.if_icmp .ge 20, 3) := by decide +kernel
theorem dL_law_166 : decode cL_law 166 = .ok (.aload_n 1, 1) := by decide +kernel
theorem dL_law_167 : decode cL_law 167 = .ok (.aload_n 2, 1) := by decide +kernel
theorem dL_law_168 : decode cL_law 168 = .ok (.aload 4, 2) := by decide +kernel
theorem dL_law_170 : decode cL_law 170 = .ok (.iload 9, 2) := by decide +kernel
theorem dL_law_172 : decode cL_law 172 = .ok (.bipush 14, 2) := by decide +kernel
theorem dL_law_174 : decode cL_law 174 = .ok (.isub, 1) := by decide +kernel
theorem dL_law_175 : decode cL_law 175 = .ok (.iload 10, 2) := by decide +kernel
theorem dL_law_177 : decode cL_law 177 = .ok (.invokestatic 167, 3) := by decide +kernel
theorem dL_law_180 : decode cL_law 180 = .ok (.goto 34, 3) := by decide +kernel
theorem dL_law_183 : decode cL_law 183 = .ok (.iload 9, 2) := by decide +kernel
theorem dL_law_185 : decode cL_law 185 = .ok (.bipush 39, 2) := by decide +kernel
theorem dL_law_187 : decode cL_law 187 = .ok (.if_icmp .ge 20, 3) := by decide +kernel
theorem dL_law_190 : decode cL_law 190 = .ok (.aload_n 1, 1) := by decide +kernel
theorem dL_law_191 : decode cL_law 191 = .ok (.aload_n 2, 1) := by decide +kernel
theorem dL_law_192 : decode cL_law 192 = .ok (.aload 5, 2) := by decide +kernel
theorem dL_law_194 : decode cL_law 194 = .ok (.iload 9, 2) := by decide +kernel
theorem dL_law_196 : decode cL_law 196 = .ok (.bipush 30, 2) := by decide +kernel
theorem dL_law_198 : decode cL_law 198 = .ok (.isub, 1) := by decide +kernel
theorem dL_law_199 : decode cL_law 199 = .ok (.iload 10, 2) := by decide +kernel
theorem dL_law_201 : decode cL_law 201 = .ok (.invokestatic 171, 3) := by decide +kernel
theorem dL_law_204 : decode cL_law 204 = .ok (.goto 10, 3) := by decide +kernel
theorem dL_law_207 : decode cL_law 207 = .ok (.aload_n 1, 1) := by decide +kernel
theorem dL_law_208 : decode cL_law 208 = .ok (.aload_n 2, 1) := by decide +kernel
theorem dL_law_209 : decode cL_law 209 = .ok (.iload 10, 2) := by decide +kernel
theorem dL_law_211 : decode cL_law 211 = .ok (.invokestatic 174, 3) := by decide +kernel
theorem dL_law_214 : decode cL_law 214 = .ok (.istore 6, 2) := by decide +kernel
theorem dL_law_216 : decode cL_law 216 = .ok (.iload 6, 2) := by decide +kernel
theorem dL_law_218 : decode cL_law 218 = .ok (.ifCond .eq 88, 3) := by decide +kernel
theorem dL_law_221 : decode cL_law 221 = .ok (.aload_n 1, 1) := by decide +kernel
theorem dL_law_222 : decode cL_law 222 = .ok (.aload_n 2, 1) := by decide +kernel
theorem dL_law_223 : decode cL_law 223 = .ok (.aload_n 3, 1) := by decide +kernel
theorem dL_law_224 : decode cL_law 224 = .ok (.aload 4, 2) := by decide +kernel
theorem dL_law_226 : decode cL_law 226 = .ok (.iload 10, 2) := by decide +kernel
theorem dL_law_228 : decode cL_law 228 = .ok (.invokestatic 177, 3) := by decide +kernel
theorem dL_law_231 : decode cL_law 231 = .ok (.ifCond .eq 75, 3) := by decide +kernel
theorem dL_law_234 : decode cL_law 234 = .ok (.aload_n 2, 1) := by decide +kernel
theorem dL_law_235 : decode cL_law 235 = .ok (.iconst 1, 1) := by decide +kernel
theorem dL_law_236 : decode cL_law 236 = .ok (.iaload, 1) := by decide +kernel
theorem dL_law_237 : decode cL_law 237 = .ok (.ifCond .eq 45, 3) := by decide +kernel
theorem dL_law_240 : decode cL_law 240 = .ok (.iload 10, 2) := by decide +kernel
theorem dL_law_242 : decode cL_law 242 = .ok (.bipush 6, 2) := by decide +kernel
theorem dL_law_244 : decode cL_law 244 = .ok (.irem, 1) := by decide +kernel
theorem dL_law_245 : decode cL_law 245 = .ok (.ifCond .gt 37, 3) := by decide +kernel
theorem dL_law_248 : decode cL_law 248 = .ok (.aload_n 2, 1) := by decide +kernel
theorem dL_law_249 : decode cL_law 249 = .ok (.iconst 5, 1) := by decide +kernel
theorem dL_law_250 : decode cL_law 250 = .ok (.iaload, 1) := by decide +kernel
theorem dL_law_251 : decode cL_law 251 = .ok (.iconst 5, 1) := by decide +kernel
theorem dL_law_252 : decode cL_law 252 = .ok (.if_icmp .gt 30, 3) := by decide +kernel
theorem dL_law_255 : decode cL_law 255 = .ok (.aload_n 1, 1) := by decide +kernel
theorem dL_law_256 : decode cL_law 256 = .ok (.aload_n 2, 1) := by decide +kernel
theorem dL_law_257 : decode cL_law 257 = .ok (.iload 10, 2) := by decide +kernel
theorem dL_law_259 : decode cL_law 259 = .ok (.aload_n 2, 1) := by decide +kernel
theorem dL_law_260 : decode cL_law 260 = .ok (.iconst 1, 1) := by decide +kernel
theorem dL_law_261 : decode cL_law 261 = .ok (.iaload, 1) := by decide +kernel
theorem dL_law_262 : decode cL_law 262 = .ok (.irem, 1) := by decide +kernel
theorem dL_law_263 : decode cL_law 263 = .ok (.iload 10, 2) := by decide +kernel
theorem dL_law_265 : decode cL_law 265 = .ok (.bipush 40, 2) := by decide +kernel
theorem dL_law_267 : decode cL_law 267 = .ok (.idiv, 1) := by decide +kernel
theorem dL_law_268 : decode cL_law 268 = .ok (.iconst 4, 1) := by decide +kernel
theorem dL_law_269 : decode cL_law 269 = .ok (.irem, 1) := by decide +kernel
theorem dL_law_270 : decode cL_law 270 = .ok (.iload 10, 2) := by decide +kernel
theorem dL_law_272 : decode cL_law 272 = .ok (.sipush 160, 3) := by decide +kernel
theorem dL_law_275 : decode cL_law 275 = .ok (.idiv, 1) := by decide +kernel
theorem dL_law_276 : decode cL_law 276 = .ok (.invokestatic 181, 3) := by decide +kernel
theorem dL_law_279 : decode cL_law 279 = .ok (.ifCond .eq 27, 3) := by decide +kernel
theorem dL_law_282 : decode cL_law 282 = .ok (.iload 7, 2) := by decide +kernel
theorem dL_law_284 : decode cL_law 284 = .ok (.bipush 40, 2) := by decide +kernel
theorem dL_law_286 : decode cL_law 286 = .ok (.irem, 1) := by decide +kernel
theorem dL_law_287 : decode cL_law 287 = .ok (.ifCond .gt 15, 3) := by decide +kernel
theorem dL_law_290 : decode cL_law 290 = .ok (.aload_n 1, 1) := by decide +kernel
theorem dL_law_291 : decode cL_law 291 = .ok (.aload_n 2, 1) := by decide +kernel
theorem dL_law_292 : decode cL_law 292 = .ok (.iload 8, 2) := by decide +kernel
theorem dL_law_294 : decode cL_law 294 = .ok (.iconst 3, 1) := by decide +kernel
theorem dL_law_295 : decode cL_law 295 = .ok (.idiv, 1) := by decide +kernel
theorem dL_law_296 : decode cL_law 296 = .ok (.invokestatic 155, 3) := by decide +kernel
theorem dL_law_299 : decode cL_law 299 = .ok (.ifCond .eq 7, 3) := by decide +kernel
theorem dL_law_302 : decode cL_law 302 = .ok (.iconst 1, 1) := by decide +kernel
theorem dL_law_303 : decode cL_law 303 = .ok (.goto 4, 3) := by decide +kernel
theorem dL_law_306 : decode cL_law 306 = .ok (.iconst 0, 1) := by decide +kernel
theorem dL_law_307 : decode cL_law 307 = .ok (.istore 6, 2) := by decide +kernel
theorem dL_law_309 : decode cL_law 309 = .ok (.aload_n 2, 1) := by decide +kernel
theorem dL_law_310 : decode cL_law 310 = .ok (.iconst 5, 1) := by decide +kernel
theorem dL_law_311 : decode cL_law 311 = .ok (.dup2, 1) := by decide +kernel
theorem dL_law_312 : decode cL_law 312 = .ok (.iaload, 1) := by decide +kernel
theorem dL_law_313 : decode cL_law 313 = .ok (.aload_n 2, 1) := by decide +kernel
theorem dL_law_314 : decode cL_law 314 = .ok (.iconst 1, 1) := by decide +kernel
theorem dL_law_315 : decode cL_law 315 = .ok (.iaload, 1) := by decide +kernel
theorem dL_law_316 : decode cL_law 316 = .ok (.ifCond .le 15, 3) := by decide +kernel
theorem dL_law_319 : decode cL_law 319 = .ok (.iload 10, 2) := by decide +kernel
theorem dL_law_321 : decode cL_law 321 = .ok (.bipush 6, 2) := by decide +kernel
theorem dL_law_323 : decode cL_law 323 = .ok (.irem, 1) := by decide +kernel
theorem dL_law_324 : decode cL_law 324 = .ok (.ifCond .ne 7, 3) := by decide +kernel
theorem dL_law_327 : decode cL_law 327 = .ok (.iconst 1, 1) := by decide +kernel
theorem dL_law_328 : decode cL_law 328 = .ok (.goto 4, 3) := by decide +kernel
theorem dL_law_331 : decode cL_law 331 = .ok (.iconst 0, 1) := by decide +kernel
theorem dL_law_332 : decode cL_law 332 = .ok (.iadd, 1) := by decide +kernel
theorem dL_law_333 : decode cL_law 333 = .ok (.iastore, 1) := by decide +kernel
theorem dL_law_334 : decode cL_law 334 = .ok (.iinc 7 1, 3) := by decide +kernel
theorem dL_law_337 : decode cL_law 337 = .ok (.goto (-279), 3) := by decide +kernel
theorem dL_law_340 : decode cL_law 340 = .ok (.iload 6, 2) := by decide +kernel
theorem dL_law_342 : decode cL_law 342 = .ok (.ireturn, 1) := by decide +kernel
