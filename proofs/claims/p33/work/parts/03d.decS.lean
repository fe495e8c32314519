theorem dL_isSound_0 : decode cL_isSound 0 = .ok (.iconst 0, 1) := by decide +kernel
theorem dL_isSound_1 : decode cL_isSound 1 = .ok (.istore 5, 2) := by decide +kernel
theorem dL_isSound_3 : decode cL_isSound 3 = .ok (.aload_n 0, 1) := by decide +kernel
theorem dL_isSound_4 : decode cL_isSound 4 = .ok (.iconst 4, 1) := by decide +kernel
theorem dL_isSound_5 : decode cL_isSound 5 = .ok (.invokevirtual 91, 3) := by decide +kernel
theorem dL_isSound_8 : decode cL_isSound 8 = .ok (.aload_n 1, 1) := by decide +kernel
theorem dL_isSound_9 : decode cL_isSound 9 = .ok (.iconst 3, 1) := by decide +kernel
theorem dL_isSound_10 : decode cL_isSound 10 = .ok (.iaload, 1) := by decide +kernel
theorem dL_isSound_11 : decode cL_isSound 11 = .ok (.if_icmp .ne 62, 3) := by decide +kernel
theorem dL_isSound_14 : decode cL_isSound 14 = .ok (.aload_n 0, 1) := by decide +kernel
theorem dL_isSound_15 : decode cL_isSound 15 = .ok (.iconst 0, 1) := by decide +kernel
theorem dL_isSound_16 : decode cL_isSound 16 = .ok (.invokevirtual 91, 3) := by decide +kernel
theorem dL_isSound_19 : decode cL_isSound 19 = .ok (.aload_n 0, 1) := by decide +kernel
theorem dL_isSound_20 : decode cL_isSound 20 = .ok (.iconst 1, 1) := by decide +kernel
theorem dL_isSound_21 : decode cL_isSound 21 = .ok (.invokevirtual 91, 3) := by decide +kernel
theorem dL_isSound_24 : decode cL_isSound 24 = .ok (.iadd, 1) := by decide +kernel
theorem dL_isSound_25 : decode cL_isSound 25 = .ok (.aload_n 0, 1) := by decide +kernel
theorem dL_isSound_26 : decode cL_isSound 26 = .ok (.iconst 2, 1) := by decide +kernel
theorem dL_isSound_27 : decode cL_isSound 27 = .ok (.invokevirtual 91, 3) := by decide +kernel
theorem dL_isSound_30 : decode cL_isSound 30 = .ok (.iadd, 1) := by decide +kernel
theorem dL_isSound_31 : decode cL_isSound 31 = .ok (.aload_n 0, 1) := by decide +kernel
theorem dL_isSound_32 : decode cL_isSound 32 = .ok (.iconst 3, 1) := by decide +kernel
theorem dL_isSound_33 : decode cL_isSound 33 = .ok (.invokevirtual 91, 3) := by decide +kernel
theorem dL_isSound_36 : decode cL_isSound 36 = .ok (.iadd, 1) := by decide +kernel
theorem dL_isSound_37 : decode cL_isSound 37 = .ok (.aload_n 0, 1) := by decide +kernel
theorem dL_isSound_38 : decode cL_isSound 38 = .ok (.iconst 4, 1) := by decide +kernel
theorem dL_isSound_39 : decode cL_isSound 39 = .ok (.invokevirtual 91, 3) := by decide +kernel
theorem dL_isSound_42 : decode cL_isSound 42 = .ok (.if_icmp .ne 31, 3) := by decide +kernel
theorem dL_isSound_45 : decode cL_isSound 45 = .ok (.aload_n 0, 1) := by decide +kernel
theorem dL_isSound_46 : decode cL_isSound 46 = .ok (.iconst 0, 1) := by decide +kernel
theorem dL_isSound_47 : decode cL_isSound 47 = .ok (.invokevirtual 91, 3) := by decide +kernel
theorem dL_isSound_50 : decode cL_isSound 50 = .ok (.ifCond .lt 23, 3) := by decide +kernel
theorem dL_isSound_53 : decode cL_isSound 53 = .ok (.aload_n 0, 1) := by decide +kernel
theorem dL_isSound_54 : decode cL_isSound 54 = .ok (.iconst 1, 1) := by decide +kernel
theorem dL_isSound_55 : decode cL_isSound 55 = .ok (.invokevirtual 91, 3) := by decide +kernel
theorem dL_isSound_58 : decode cL_isSound 58 = .ok (.ifCond .lt 15, 3) := by decide +kernel
theorem dL_isSound_61 : decode cL_isSound 61 = .ok (.aload_n 0, 1) := by decide +kernel
theorem dL_isSound_62 : decode cL_isSound 62 = .ok (.iconst 3, 1) := by decide +kernel
theorem dL_isSound_63 : decode cL_isSound 63 = .ok (.invokevirtual 91, 3) := by decide +kernel
theorem dL_isSound_66 : decode cL_isSound 66 = .ok (.ifCond .lt 7, 3) := by decide +kernel
theorem dL_isSound_69 : decode cL_isSound 69 = .ok (.iconst 1, 1) := by decide +kernel
theorem dL_isSound_70 : decode cL_isSound 70 = .ok (.goto 4, 3) := by decide +kernel
theorem dL_isSound_73 : decode cL_isSound 73 = .ok (.iconst 0, 1) := by decide +kernel
theorem dL_isSound_74 : decode cL_isSound 74 = .ok (.istore 6, 2) := by decide +kernel
theorem dL_isSound_76 : decode cL_isSound 76 = .ok (.iconst 0, 1) := by decide +kernel
theorem dL_isSound_77 : decode cL_isSound 77 = .ok (.istore 7, 2) := by decide +kernel
theorem dL_isSound_79 : decode cL_isSound 79 = .ok (.iconst 0, 1) := by decide +kernel
theorem dL_isSound_80 : decode cL_isSound 80 = .ok (.istore 8, 2) := by decide +kernel
theorem dL_isSound_82 : decode cL_isSound 82 = .ok (.iconst 0, 1) := by decide +kernel
theorem dL_isSound_83 : decode cL_isSound 83 = .ok (.istore 9, 2) := by decide +kernel
theorem dL_isSound_85 : decode cL_isSound 85 = .ok (.iconst 0, 1) := by decide +kernel
theorem dL_isSound_86 : decode cL_isSound 86 = .ok (.istore 10, 2) := by decide +kernel
theorem dL_isSound_88 : decode cL_isSound 88 = .ok (.iload 10, 2) := by decide +kernel
theorem dL_isSound_90 : decode cL_isSound 90 = .ok (.aload_n 1, 1) := by decide +kernel
theorem dL_isSound_91 : decode cL_isSound 91 = .ok (.iconst 0, 1) := by decide +kernel
theorem dL_isSound_92 : decode cL_isSound 92 = .ok (.iaload, 1) := by decide +kernel
theorem dL_isSound_93 : decode cL_isSound 93 = .ok (.if_icmp .ge 218, 3) := by decide +kernel
theorem dL_isSound_96 : decode cL_isSound 96 = .ok (.iload 6, 2) := by decide +kernel
theorem dL_isSound_98 : decode cL_isSound 98 = .ok (.ifCond .eq 213, 3) := by decide +kernel
theorem dL_isSound_101 : decode cL_isSound 101 = .ok (.aload_n 0, 1) := by decide +kernel
theorem dL_isSound_102 : decode cL_isSound 102 = .ok (.iload 10, 2) := by decide +kernel
theorem dL_isSound_104 : decode cL_isSound 104 = .ok (.iconst 4, 1) := by decide +kernel
theorem dL_isSound_105 : decode cL_isSound 105 = .ok (.invokevirtual 85, 3) := by decide +kernel
theorem dL_isSound_108 : decode cL_isSound 108 = .ok (.istore 11, 2) := by decide +kernel
theorem dL_isSound_110 : decode cL_isSound 110 = .ok (.iload 7, 2) := by decide +kernel
theorem dL_isSound_112 : decode cL_isSound 112 = .ok (.aload_n 0, 1) := by decide +kernel
theorem dL_isSound_113 : decode cL_isSound 113 = .ok (.iload 10, 2) := by decide +kernel
theorem dL_isSound_115 : decode cL_isSound 115 = .ok (.iconst 0, 1) := by decide +kernel
theorem dL_isSound_116 : decode cL_isSound 116 = .ok (.invokevirtual 85, 3) := by decide +kernel
theorem dL_isSound_119 : decode cL_isSound 119 = .ok (.iadd, 1) := by decide +kernel
theorem dL_isSound_120 : decode cL_isSound 120 = .ok (.istore 7, 2) := by decide +kernel
theorem dL_isSound_122 : decode cL_isSound 122 = .ok (.iload 8, 2) := by decide +kernel
theorem dL_isSound_124 : decode cL_isSound 124 = .ok (.aload_n 0, 1) := by decide +kernel
theorem dL_isSound_125 : decode cL_isSound 125 = .ok (.iload 10, 2) := by decide +kernel
theorem dL_isSound_127 : decode cL_isSound 127 = .ok (.iconst 5, 1) := by decide +kernel
theorem dL_isSound_128 : decode cL_isSound 128 = .ok (.invokevirtual 85, 3) := by decide +kernel
theorem dL_isSound_131 : decode cL_isSound 131 = .ok (.iadd, 1) := by decide +kernel
theorem dL_isSound_132 : decode cL_isSound 132 = .ok (.istore 8, 2) := by decide +kernel
theorem dL_isSound_134 : decode cL_isSound 134 = .ok (.iload 9, 2) := by decide +kernel
theorem dL_isSound_136 : decode cL_isSound 136 = .ok (.iload 11, 2) := by decide +kernel
theorem dL_isSound_138 : decode cL_isSound 138 = .ok (.ifCond .le 7, 3) := by decide +kernel
theorem dL_isSound_141 : decode cL_isSound 141 = .ok (.iconst 1, 1) := by decide +kernel
theorem dL_isSound_142 : decode cL_isSound 142 = .ok (.goto 4, 3) := by decide +kernel
theorem dL_isSound_145 : decode cL_isSound 145 = .ok (.iconst 0, 1) := by decide +kernel
theorem dL_isSound_146 : decode cL_isSound 146 = .ok (.iadd, 1) := by decide +kernel
theorem dL_isSound_147 : decode cL_isSound 147 = .ok (.istore 9, 2) := by decide +kernel
theorem dL_isSound_149 : decode cL_isSound 149 = .ok (.iload 10, 2) := by decide +kernel
theorem dL_isSound_151 : decode cL_isSound 151 = .ok (.iload 4, 2) := by decide +kernel
theorem dL_isSound_153 : decode cL_isSound 153 = .ok (.iadd, 1) := by decide +kernel
theorem dL_isSound_154 : decode cL_isSound 154 = .ok (.iconst 4, 1) := by decide +kernel
theorem dL_isSound_155 : decode cL_isSound 155 = .ok (.irem, 1) := by decide +kernel
theorem dL_isSound_156 : decode cL_isSound 156 = .ok (.ifCond .ne 7, 3) := by decide +kernel
theorem dL_isSound_159 : decode cL_isSound 159 = .ok (.iconst 1, 1) := by decide +kernel
theorem dL_isSound_160 : decode cL_isSound 160 = .ok (.goto 4, 3) := by decide +kernel
theorem dL_isSound_163 : decode cL_isSound 163 = .ok (.iconst 0, 1) := by decide +kernel
theorem dL_isSound_164 : decode cL_isSound 164 = .ok (.istore 12, 2) := by decide +kernel
theorem dL_isSound_166 : decode cL_isSound 166 = .ok (.iload 11, 2) := by decide +kernel
theorem dL_isSound_168 : decode cL_isSound 168 = .ok (.ifCond .lt 125, 3) := by decide +kernel
theorem dL_isSound_171 : decode cL_isSound 171 = .ok (.iload 11, 2) := by decide +kernel
theorem dL_isSound_173 : decode cL_isSound 173 = .ok (.bipush 10, 2) := by decide +kernel
theorem dL_isSound_175 : decode cL_isSound 175 = .ok (.if_icmp .gt 118, 3) := by decide +kernel
theorem dL_isSound_178 : decode cL_isSound 178 = .ok (.aload_n 3, 1) := by decide +kernel
theorem dL_isSound_179 : decode cL_isSound 179 = .ok (.bipush 12, 2) := by decide +kernel
theorem dL_isSound_181 : decode cL_isSound 181 = .ok (.iload 10, 2) := by decide +kernel
theorem dL_isSound_183 : decode cL_isSound 183 = .ok (.iadd, 1) := by decide +kernel
theorem dL_isSound_184 : decode cL_isSound 184 = .ok (.iaload, 1) := by decide +kernel
theorem dL_isSound_185 : decode cL_isSound 185 = .ok (.ifCond .gt 8, 3) := by decide +kernel
theorem dL_isSound_188 : decode cL_isSound 188 = .ok (.iload 11, 2) := by decide +kernel
theorem dL_isSound_190 : decode cL_isSound 190 = .ok (.ifCond .ne 103, 3) := by decide +kernel
theorem dL_isSound_193 : decode cL_isSound 193 = .ok (.iload 12, 2) := by decide +kernel
theorem dL_isSound_195 : decode cL_isSound 195 = .ok (.ifCond .eq 94, 3) := by decide +kernel
theorem dL_isSound_198 : decode cL_isSound 198 = .ok (.aload_n 0, 1) := by decide +kernel
theorem dL_isSound_199 : decode cL_isSound 199 = .ok (.iload 10, 2) := by decide +kernel
theorem dL_isSound_201 : decode cL_isSound 201 = .ok (.iconst 0, 1) := by decide +kernel
theorem dL_isSound_202 : decode cL_isSound 202 = .ok (.invokevirtual 85, 3) := by decide +kernel
theorem dL_isSound_205 : decode cL_isSound 205 = .ok (.ifCond .lt 88, 3) := by decide +kernel
theorem dL_isSound_208 : decode cL_isSound 208 = .ok (.aload_n 0, 1) := by decide +kernel
theorem dL_isSound_209 : decode cL_isSound 209 = .ok (.iload 10, 2) := by decide +kernel
theorem dL_isSound_211 : decode cL_isSound 211 = .ok (.iconst 1, 1) := by decide +kernel
theorem dL_isSound_212 : decode cL_isSound 212 = .ok (.invokevirtual 85, 3) := by decide +kernel
theorem dL_isSound_215 : decode cL_isSound 215 = .ok (.ifCond .lt 78, 3) := by decide +kernel
theorem dL_isSound_218 : decode cL_isSound 218 = .ok (.aload_n 0, 1) := by decide +kernel
theorem dL_isSound_219 : decode cL_isSound 219 = .ok (.iload 10, 2) := by decide +kernel
theorem dL_isSound_221 : decode cL_isSound 221 = .ok (.iconst 1, 1) := by decide +kernel
theorem dL_isSound_222 : decode cL_isSound 222 = .ok (.invokevirtual 85, 3) := by decide +kernel
theorem dL_isSound_225 : decode cL_isSound 225 = .ok (.ldc 153, 2) := by decide +kernel
theorem dL_isSound_227 : decode cL_isSound 227 = .ok (.if_icmp .gt 66, 3) := by decide +kernel
theorem dL_isSound_230 : decode cL_isSound 230 = .ok (.aload_n 0, 1) := by decide +kernel
theorem dL_isSound_231 : decode cL_isSound 231 = .ok (.iload 10, 2) := by decide +kernel
theorem dL_isSound_233 : decode cL_isSound 233 = .ok (.iconst 2, 1) := by decide +kernel
theorem dL_isSound_234 : decode cL_isSound 234 = .ok (.invokevirtual 85, 3) := by decide +kernel
theorem dL_isSound_237 : decode cL_isSound 237 = .ok (.ifCond .lt 56, 3) := by decide +kernel
theorem dL_isSound_240 : decode cL_isSound 240 = .ok (.aload_n 0, 1) := by decide +kernel
theorem dL_isSound_241 : decode cL_isSound 241 = .ok (.iload 10, 2) := by decide +kernel
theorem dL_isSound_243 : decode cL_isSound 243 = .ok (.iconst 3, 1) := by decide +kernel
theorem dL_isSound_244 : decode cL_isSound 244 = .ok (.invokevirtual 85, 3) := by decide +kernel
theorem dL_isSound_247 : decode cL_isSound 247 = .ok (.ifCond .lt 46, 3) := by decide +kernel
theorem dL_isSound_250 : decode cL_isSound 250 = .ok (.aload_n 0, 1) := by decide +kernel
theorem dL_isSound_251 : decode cL_isSound 251 = .ok (.iload 10, 2) := by decide +kernel
theorem dL_isSound_253 : decode cL_isSound 253 = .ok (.bipush 7, 2) := by decide +kernel
theorem dL_isSound_255 : decode cL_isSound 255 = .ok (.invokevirtual 85, 3) := by decide +kernel
theorem dL_isSound_258 : decode cL_isSound 258 = .ok (.ifCond .lt 35, 3) := by decide +kernel
theorem dL_isSound_261 : decode cL_isSound 261 = .ok (.aload_n 0, 1) := by decide +kernel
theorem dL_isSound_262 : decode cL_isSound 262 = .ok (.iload 10, 2) := by decide +kernel
theorem dL_isSound_264 : decode cL_isSound 264 = .ok (.bipush 7, 2) := by decide +kernel
theorem dL_isSound_266 : decode cL_isSound 266 = .ok (.invokevirtual 85, 3) := by decide +kernel
theorem dL_isSound_269 : decode cL_isSound 269 = .ok (.bipush 100, 2) := by decide +kernel
theorem dL_isSound_271 : decode cL_isSound 271 = .ok (.if_icmp .gt 22, 3) := by decide +kernel
theorem dL_isSound_274 : decode cL_isSound 274 = .ok (.iload 11, 2) := by decide +kernel
theorem dL_isSound_276 : decode cL_isSound 276 = .ok (.ifCond .gt 13, 3) := by decide +kernel
theorem dL_isSound_279 : decode cL_isSound 279 = .ok (.aload_n 0, 1) := by decide +kernel
theorem dL_isSound_280 : decode cL_isSound 280 = .ok (.iload 10, 2) := by decide +kernel
theorem dL_isSound_282 : decode cL_isSound 282 = .ok (.iconst 5, 1) := by decide +kernel
theorem dL_isSound_283 : decode cL_isSound 283 = .ok (.invokevirtual 85, 3) := by decide +kernel
theorem dL_isSound_286 : decode cL_isSound 286 = .ok (.ifCond .ne 7, 3) := by decide +kernel
theorem dL_isSound_289 : decode cL_isSound 289 = .ok (.iconst 1, 1) := by decide +kernel
theorem dL_isSound_290 : decode cL_isSound 290 = .ok (.goto 4, 3) := by decide +kernel
theorem dL_isSound_293 : decode cL_isSound 293 = .ok (.iconst 0, 1) := by decide +kernel
theorem dL_isSound_294 : decode cL_isSound 294 = .ok (.istore 6, 2) := by decide +kernel
theorem dL_isSound_296 : decode cL_isSound 296 = .ok (.aload_n 3, 1) := by decide +kernel
theorem dL_isSound_297 : decode cL_isSound 297 = .ok (.bipush 12, 2) := by decide +kernel
theorem dL_isSound_299 : decode cL_isSound 299 = .ok (.iload 10, 2) := by decide +kernel
theorem dL_isSound_301 : decode cL_isSound 301 = .ok (.iadd, 1) := by decide +kernel
theorem dL_isSound_302 : decode cL_isSound 302 = .ok (.iload 11, 2) := by decide +kernel
theorem dL_isSound_304 : decode cL_isSound 304 = .ok (.iastore, 1) := by decide +kernel
theorem dL_isSound_305 : decode cL_isSound 305 = .ok (.iinc 10 1, 3) := by decide +kernel
theorem dL_isSound_308 : decode cL_isSound 308 = .ok (.goto (-220), 3) := by decide +kernel
theorem dL_isSound_311 : decode cL_isSound 311 = .ok (.iconst 0, 1) := by decide +kernel
theorem dL_isSound_312 : decode cL_isSound 312 = .ok (.istore 10, 2) := by decide +kernel
theorem dL_isSound_314 : decode cL_isSound 314 = .ok (.iload 10, 2) := by decide +kernel
theorem dL_isSound_316 : decode cL_isSound 316 = .ok (.aload_n 1, 1) := by decide +kernel
theorem dL_isSound_317 : decode cL_isSound 317 = .ok (.iconst 2, 1) := by decide +kernel
theorem dL_isSound_318 : decode cL_isSound 318 = .ok (.iaload, 1) := by decide +kernel
theorem dL_isSound_319 : decode cL_isSound 319 = .ok (.if_icmp .ge 87, 3) := by decide +kernel
theorem dL_isSound_322 : decode cL_isSound 322 = .ok (.iload 6, 2) := by decide +kernel
theorem dL_isSound_324 : decode cL_isSound 324 = .ok (.ifCond .eq 82, 3) := by decide +kernel
theorem dL_isSound_327 : decode cL_isSound 327 = .ok (.aload_n 0, 1) := by decide +kernel
theorem dL_isSound_328 : decode cL_isSound 328 = .ok (.iload 10, 2) := by decide +kernel
theorem dL_isSound_330 : decode cL_isSound 330 = .ok (.invokevirtual 88, 3) := by decide +kernel
theorem dL_isSound_333 : decode cL_isSound 333 = .ok (.istore 11, 2) := by decide +kernel
theorem dL_isSound_335 : decode cL_isSound 335 = .ok (.iload 5, 2) := by decide +kernel
theorem dL_isSound_337 : decode cL_isSound 337 = .ok (.iload 11, 2) := by decide +kernel
theorem dL_isSound_339 : decode cL_isSound 339 = .ok (.iadd, 1) := by decide +kernel
theorem dL_isSound_340 : decode cL_isSound 340 = .ok (.istore 5, 2) := by decide +kernel
theorem dL_isSound_342 : decode cL_isSound 342 = .ok (.aload_n 3, 1) := by decide +kernel
theorem dL_isSound_343 : decode cL_isSound 343 = .ok (.bipush 12, 2) := by decide +kernel
theorem dL_isSound_345 : decode cL_isSound 345 = .ok (.aload_n 2, 1) := by decide +kernel
theorem dL_isSound_346 : decode cL_isSound 346 = .ok (.iload 10, 2) := by decide +kernel
theorem dL_isSound_348 : decode cL_isSound 348 = .ok (.iaload, 1) := by decide +kernel
theorem dL_isSound_349 : decode cL_isSound 349 = .ok (.sipush 1000, 3) := by decide +kernel
theorem dL_isSound_352 : decode cL_isSound 352 = .ok (.idiv, 1) := by decide +kernel
theorem dL_isSound_353 : decode cL_isSound 353 = .ok (.iadd, 1) := by decide +kernel
theorem dL_isSound_354 : decode cL_isSound 354 = .ok (.iaload, 1) := by decide +kernel
theorem dL_isSound_355 : decode cL_isSound 355 = .ok (.ifCond .ne 7, 3) := by decide +kernel
theorem dL_isSound_358 : decode cL_isSound 358 = .ok (.iconst 1, 1) := by decide +kernel
theorem dL_isSound_359 : decode cL_isSound 359 = .ok (.goto 4, 3) := by decide +kernel
theorem dL_isSound_362 : decode cL_isSound 362 = .ok (.iconst 0, 1) := by decide +kernel
theorem dL_isSound_363 : decode cL_isSound 363 = .ok (.istore 12, 2) := by decide +kernel
theorem dL_isSound_365 : decode cL_isSound 365 = .ok (.iload 11, 2) := by decide +kernel
theorem dL_isSound_367 : decode cL_isSound 367 = .ok (.ifCond .lt 30, 3) := by decide +kernel
theorem dL_isSound_370 : decode cL_isSound 370 = .ok (.iload 11, 2) := by decide +kernel
theorem dL_isSound_372 : decode cL_isSound 372 = .ok (.aload_n 2, 1) := by decide +kernel
theorem dL_isSound_373 : decode cL_isSound 373 = .ok (.iload 10, 2) := by decide +kernel
theorem dL_isSound_375 : decode cL_isSound 375 = .ok (.iaload, 1) := by decide +kernel
theorem dL_isSound_376 : decode cL_isSound 376 = .ok (.sipush 1000, 3) := by decide +kernel
theorem dL_isSound_379 : decode cL_isSound 379 = .ok (.irem, 1) := by decide +kernel
theorem dL_isSound_380 : decode cL_isSound 380 = .ok (.if_icmp .gt 17, 3) := by decide +kernel
theorem dL_isSound_383 : decode cL_isSound 383 = .ok (.iload 12, 2) := by decide +kernel
theorem dL_isSound_385 : decode cL_isSound 385 = .ok (.ifCond .eq 8, 3) := by decide +kernel
theorem dL_isSound_388 : decode cL_isSound 388 = .ok (.iload 11, 2) := by decide +kernel
theorem dL_isSound_390 : decode cL_isSound 390 = .ok (.ifCond .ne 7, 3) := by decide +kernel
theorem dL_isSound_393 : decode cL_isSound 393 = .ok (.iconst 1, 1) := by decide +kernel
theorem dL_isSound_394 : decode cL_isSound 394 = .ok (.goto 4, 3) := by decide +kernel
theorem dL_isSound_397 : decode cL_isSound 397 = .ok (.iconst 0, 1) := by decide +kernel
theorem dL_isSound_398 : decode cL_isSound 398 = .ok (.istore 6, 2) := by decide +kernel
theorem dL_isSound_400 : decode cL_isSound 400 = .ok (.iinc 10 1, 3) := by decide +kernel
theorem dL_isSound_403 : decode cL_isSound 403 = .ok (.goto (-89), 3) := by decide +kernel
theorem dL_isSound_406 : decode cL_isSound 406 = .ok (.iload 4, 2) := by decide +kernel
theorem dL_isSound_408 : decode cL_isSound 408 = .ok (.iconst 5, 1) := by decide +kernel
theorem dL_isSound_409 : decode cL_isSound 409 = .ok (.irem, 1) := by decide +kernel
theorem dL_isSound_410 : decode cL_isSound 410 = .ok (.istore 10, 2) := by decide +kernel
theorem dL_isSound_412 : decode cL_isSound 412 = .ok (.iload 10, 2) := by decide +kernel
theorem dL_isSound_414 : decode cL_isSound 414 = .ok (.aload_n 1, 1) := by decide +kernel
theorem dL_isSound_415 : decode cL_isSound 415 = .ok (.iconst 1, 1) := by decide +kernel
theorem dL_isSound_416 : decode cL_isSound 416 = .ok (.iaload, 1) := by decide +kernel
theorem dL_isSound_417 : decode cL_isSound 417 = .ok (.if_icmp .ge 171, 3) := by decide +kernel
theorem dL_isSound_420 : decode cL_isSound 420 = .ok (.iload 6, 2) := by decide +kernel
theorem dL_isSound_422 : decode cL_isSound 422 = .ok (.ifCond .eq 166, 3) := by decide +kernel
theorem dL_isSound_425 : decode cL_isSound 425 = .ok (.aload_n 0, 1) := by decide +kernel
theorem dL_isSound_426 : decode cL_isSound 426 = .ok (.iload 10, 2) := by decide +kernel
theorem dL_isSound_428 : decode cL_isSound 428 = .ok (.iconst 1, 1) := by decide +kernel
theorem dL_isSound_429 : decode cL_isSound 429 = .ok (.invokevirtual 82, 3) := by decide +kernel
theorem dL_isSound_432 : decode cL_isSound 432 = .ok (.istore 11, 2) := by decide +kernel
theorem dL_isSound_434 : decode cL_isSound 434 = .ok (.aload_n 0, 1) := by decide +kernel
theorem dL_isSound_435 : decode cL_isSound 435 = .ok (.iload 10, 2) := by decide +kernel
theorem dL_isSound_437 : decode cL_isSound 437 = .ok (.iconst 2, 1) := by decide +kernel
theorem dL_isSound_438 : decode cL_isSound 438 = .ok (.invokevirtual 82, 3) := by decide +kernel
theorem dL_isSound_441 : decode cL_isSound 441 = .ok (.istore 12, 2) := by decide +kernel
theorem dL_isSound_443 : decode cL_isSound 443 = .ok (.aload_n 0, 1) := by decide +kernel
theorem dL_isSound_444 : decode cL_isSound 444 = .ok (.iload 10, 2) := by decide +kernel
theorem dL_isSound_446 : decode cL_isSound 446 = .ok (.iconst 3, 1) := by decide +kernel
theorem dL_isSound_447 : decode cL_isSound 447 = .ok (.invokevirtual 82, 3) := by decide +kernel
theorem dL_isSound_450 : decode cL_isSound 450 = .ok (.iconst 1, 1) := by decide +kernel
theorem dL_isSound_451 : decode cL_isSound 451 = .ok (.if_icmp .ne 7, 3) := by decide +kernel
theorem dL_isSound_454 : decode cL_isSound 454 = .ok (.iconst 1, 1) := by decide +kernel
theorem dL_isSound_455 : decode cL_isSound 455 = .ok (.goto 4, 3) := by decide +kernel
theorem dL_isSound_458 : decode cL_isSound 458 = .ok (.iconst 0, 1) := by decide +kernel
theorem dL_isSound_459 : decode cL_isSound 459 = .ok (.istore 13, 2) := by decide +kernel
theorem dL_isSound_461 : decode cL_isSound 461 = .ok (.iload 11, 2) := by decide +kernel
theorem dL_isSound_463 : decode cL_isSound 463 = .ok (.iload 4, 2) := by decide +kernel
theorem dL_isSound_465 : decode cL_isSound 465 = .ok (.iload 12, 2) := by decide +kernel
theorem dL_isSound_467 : decode cL_isSound 467 = .ok (.irem, 1) := by decide +kernel
theorem dL_isSound_468 : decode cL_isSound 468 = .ok (.iadd, 1) := by decide +kernel
theorem dL_isSound_469 : decode cL_isSound 469 = .ok (.istore 14, 2) := by decide +kernel
theorem dL_isSound_471 : decode cL_isSound 471 = .ok (.iload 12, 2) := by decide +kernel
theorem dL_isSound_473 : decode cL_isSound 473 = .ok (.iconst 1, 1) := by decide +kernel
theorem dL_isSound_474 : decode cL_isSound 474 = .ok (.if_icmp .lt 105, 3) := by decide +kernel
theorem dL_isSound_477 : decode cL_isSound 477 = .ok (.iload 12, 2) := by decide +kernel
theorem dL_isSound_479 : decode cL_isSound 479 = .ok (.bipush 10, 2) := by decide +kernel
theorem dL_isSound_481 : decode cL_isSound 481 = .ok (.if_icmp .gt 98, 3) := by decide +kernel
theorem dL_isSound_484 : decode cL_isSound 484 = .ok (.iload 11, 2) := by decide +kernel
theorem dL_isSound_486 : decode cL_isSound 486 = .ok (.iload 12, 2) := by decide +kernel
theorem dL_isSound_488 : decode cL_isSound 488 = .ok (.iadd, 1) := by decide +kernel
theorem dL_isSound_489 : decode cL_isSound 489 = .ok (.bipush 40, 2) := by decide +kernel
theorem dL_isSound_491 : decode cL_isSound 491 = .ok (.if_icmp .gt 88, 3) := by decide +kernel
theorem dL_isSound_494 : decode cL_isSound 494 = .ok (.iload 13, 2) := by decide +kernel
theorem dL_isSound_496 : decode cL_isSound 496 = .ok (.ifCond .eq 54, 3) := by decide +kernel
theorem dL_isSound_499 : decode cL_isSound 499 = .ok (.aload_n 0, 1) := by decide +kernel
theorem dL_isSound_500 : decode cL_isSound 500 = .ok (.iload 14, 2) := by decide +kernel
theorem dL_isSound_502 : decode cL_isSound 502 = .ok (.invokevirtual 79, 3) := by decide +kernel
theorem dL_isSound_505 : decode cL_isSound 505 = .ok (.iload 10, 2) := by decide +kernel
theorem dL_isSound_507 : decode cL_isSound 507 = .ok (.if_icmp .ne 72, 3) := by decide +kernel
theorem dL_isSound_510 : decode cL_isSound 510 = .ok (.aload_n 0, 1) := by decide +kernel
theorem dL_isSound_511 : decode cL_isSound 511 = .ok (.aload_n 0, 1) := by decide +kernel
theorem dL_isSound_512 : decode cL_isSound 512 = .ok (.iload 10, 2) := by decide +kernel
theorem dL_isSound_514 : decode cL_isSound 514 = .ok (.iconst 0, 1) := by decide +kernel
theorem dL_isSound_515 : decode cL_isSound 515 = .ok (.invokevirtual 82, 3) := by decide +kernel
theorem dL_isSound_518 : decode cL_isSound 518 = .ok (.iconst 4, 1) := by decide +kernel
theorem dL_isSound_519 : decode cL_isSound 519 = .ok (.invokevirtual 85, 3) := by decide +kernel
theorem dL_isSound_522 : decode cL_isSound 522 = .ok (.ifCond .le 57, 3) := by decide +kernel
theorem dL_isSound_525 : decode cL_isSound 525 = .ok (.aload_n 0, 1) := by decide +kernel
theorem dL_isSound_526 : decode cL_isSound 526 = .ok (.invokevirtual 127, 3) := by decide +kernel
theorem dL_isSound_529 : decode cL_isSound 529 = .ok (.aload_n 0, 1) := by decide +kernel
theorem dL_isSound_530 : decode cL_isSound 530 = .ok (.iload 10, 2) := by decide +kernel
theorem dL_isSound_532 : decode cL_isSound 532 = .ok (.iconst 4, 1) := by decide +kernel
theorem dL_isSound_533 : decode cL_isSound 533 = .ok (.invokevirtual 82, 3) := by decide +kernel
theorem dL_isSound_536 : decode cL_isSound 536 = .ok (.isub, 1) := by decide +kernel
theorem dL_isSound_537 : decode cL_isSound 537 = .ok (.aload_n 0, 1) := by decide +kernel
theorem dL_isSound_538 : decode cL_isSound 538 = .ok (.iload 10, 2) := by decide +kernel
theorem dL_isSound_540 : decode cL_isSound 540 = .ok (.iconst 5, 1) := by decide +kernel
theorem dL_isSound_541 : decode cL_isSound 541 = .ok (.invokevirtual 82, 3) := by decide +kernel
theorem dL_isSound_544 : decode cL_isSound 544 = .ok (.if_icmp .gt 35, 3) := by decide +kernel
theorem dL_isSound_547 : decode cL_isSound 547 = .ok (.goto 14, 3) := by decide +kernel
theorem dL_isSound_550 : decode cL_isSound 550 = .ok (.aload_n 0, 1) := by decide +kernel
theorem dL_isSound_551 : decode cL_isSound 551 = .ok (.iload 14, 2) := by decide +kernel
theorem dL_isSound_553 : decode cL_isSound 553 = .ok (.invokevirtual 79, 3) := by decide +kernel
theorem dL_isSound_556 : decode cL_isSound 556 = .ok (.iload 10, 2) := by decide +kernel
theorem dL_isSound_558 : decode cL_isSound 558 = .ok (.if_icmp .eq 21, 3) := by decide +kernel
theorem dL_isSound_561 : decode cL_isSound 561 = .ok (.aload_n 0, 1) := by decide +kernel
theorem dL_isSound_562 : decode cL_isSound 562 = .ok (.iload 10, 2) := by decide +kernel
theorem dL_isSound_564 : decode cL_isSound 564 = .ok (.iconst 4, 1) := by decide +kernel
theorem dL_isSound_565 : decode cL_isSound 565 = .ok (.invokevirtual 82, 3) := by decide +kernel
theorem dL_isSound_568 : decode cL_isSound 568 = .ok (.aload_n 0, 1) := by decide +kernel
theorem dL_isSound_569 : decode cL_isSound 569 = .ok (.invokevirtual 127, 3) := by decide +kernel
theorem dL_isSound_572 : decode cL_isSound 572 = .ok (.if_icmp .gt 7, 3) := by decide +kernel
theorem dL_isSound_575 : decode cL_isSound 575 = .ok (.iconst 1, 1) := by decide +kernel
theorem dL_isSound_576 : decode cL_isSound 576 = .ok (.goto 4, 3) := by decide +kernel
theorem dL_isSound_579 : decode cL_isSound 579 = .ok (.iconst 0, 1) := by decide +kernel
theorem dL_isSound_580 : decode cL_isSound 580 = .ok (.istore 6, 2) := by decide +kernel
theorem dL_isSound_582 : decode cL_isSound 582 = .ok (.iinc 10 5, 3) := by decide +kernel
theorem dL_isSound_585 : decode cL_isSound 585 = .ok (.goto (-173), 3) := by decide +kernel
theorem dL_isSound_588 : decode cL_isSound 588 = .ok (.iload 6, 2) := by decide +kernel
theorem dL_isSound_590 : decode cL_isSound 590 = .ok (.ifCond .eq 105, 3) := by decide +kernel
theorem dL_isSound_593 : decode cL_isSound 593 = .ok (.iload 7, 2) := by decide +kernel
theorem dL_isSound_595 : decode cL_isSound 595 = .ok (.aload_n 0, 1) := by decide +kernel
theorem dL_isSound_596 : decode cL_isSound 596 = .ok (.iconst 2, 1) := by decide +kernel
theorem dL_isSound_597 : decode cL_isSound 597 = .ok (.invokevirtual 91, 3) := by decide +kernel
theorem dL_isSound_600 : decode cL_isSound 600 = .ok (.if_icmp .ne 95, 3) := by decide +kernel
theorem dL_isSound_603 : decode cL_isSound 603 = .ok (.iload 8, 2) := by decide +kernel
theorem dL_isSound_605 : decode cL_isSound 605 = .ok (.iload 5, 2) := by decide +kernel
theorem dL_isSound_607 : decode cL_isSound 607 = .ok (.if_icmp .ne 88, 3) := by decide +kernel
theorem dL_isSound_610 : decode cL_isSound 610 = .ok (.aload_n 0, 1) := by decide +kernel
theorem dL_isSound_611 : decode cL_isSound 611 = .ok (.iconst 5, 1) := by decide +kernel
theorem dL_isSound_612 : decode cL_isSound 612 = .ok (.invokevirtual 94, 3) := by decide +kernel
theorem dL_isSound_615 : decode cL_isSound 615 = .ok (.iload 9, 2) := by decide +kernel
theorem dL_isSound_617 : decode cL_isSound 617 = .ok (.if_icmp .ne 78, 3) := by decide +kernel
theorem dL_isSound_620 : decode cL_isSound 620 = .ok (.aload_n 0, 1) := by decide +kernel
theorem dL_isSound_621 : decode cL_isSound 621 = .ok (.iconst 0, 1) := by decide +kernel
theorem dL_isSound_622 : decode cL_isSound 622 = .ok (.invokevirtual 94, 3) := by decide +kernel
theorem dL_isSound_625 : decode cL_isSound 625 = .ok (.iconst 1, 1) := by decide +kernel
theorem dL_isSound_626 : decode cL_isSound 626 = .ok (.if_icmp .lt 69, 3) := by decide +kernel
theorem dL_isSound_629 : decode cL_isSound 629 = .ok (.aload_n 0, 1) := by decide +kernel
theorem dL_isSound_630 : decode cL_isSound 630 = .ok (.iconst 0, 1) := by decide +kernel
theorem dL_isSound_631 : decode cL_isSound 631 = .ok (.invokevirtual 94, 3) := by decide +kernel
theorem dL_isSound_634 : decode cL_isSound 634 = .ok (.bipush 10, 2) := by decide +kernel
theorem dL_isSound_636 : decode cL_isSound 636 = .ok (.if_icmp .gt 59, 3) := by decide +kernel
theorem dL_isSound_639 : decode cL_isSound 639 = .ok (.aload_n 0, 1) := by decide +kernel
theorem dL_isSound_640 : decode cL_isSound 640 = .ok (.iconst 2, 1) := by decide +kernel
theorem dL_isSound_641 : decode cL_isSound 641 = .ok (.invokevirtual 94, 3) := by decide +kernel
theorem dL_isSound_644 : decode cL_isSound 644 = .ok (.ifCond .lt 51, 3) := by decide +kernel
theorem dL_isSound_647 : decode cL_isSound 647 = .ok (.aload_n 0, 1) := by decide +kernel
theorem dL_isSound_648 : decode cL_isSound 648 = .ok (.iconst 3, 1) := by decide +kernel
theorem dL_isSound_649 : decode cL_isSound 649 = .ok (.invokevirtual 94, 3) := by decide +kernel
theorem dL_isSound_652 : decode cL_isSound 652 = .ok (.aload_n 0, 1) := by decide +kernel
theorem dL_isSound_653 : decode cL_isSound 653 = .ok (.iconst 2, 1) := by decide +kernel
theorem dL_isSound_654 : decode cL_isSound 654 = .ok (.invokevirtual 94, 3) := by decide +kernel
theorem dL_isSound_657 : decode cL_isSound 657 = .ok (.bipush 100, 2) := by decide +kernel
theorem dL_isSound_659 : decode cL_isSound 659 = .ok (.if_icmp .ge 18, 3) := by decide +kernel
theorem dL_isSound_662 : decode cL_isSound 662 = .ok (.iconst 5, 1) := by decide +kernel
theorem dL_isSound_663 : decode cL_isSound 663 = .ok (.bipush 100, 2) := by decide +kernel
theorem dL_isSound_665 : decode cL_isSound 665 = .ok (.aload_n 0, 1) := by decide +kernel
theorem dL_isSound_666 : decode cL_isSound 666 = .ok (.iconst 2, 1) := by decide +kernel
theorem dL_isSound_667 : decode cL_isSound 667 = .ok (.invokevirtual 94, 3) := by decide +kernel
theorem dL_isSound_670 : decode cL_isSound 670 = .ok (.isub, 1) := by decide +kernel
theorem dL_isSound_671 : decode cL_isSound 671 = .ok (.iconst 5, 1) := by decide +kernel
theorem dL_isSound_672 : decode cL_isSound 672 = .ok (.idiv, 1) := by decide +kernel
theorem dL_isSound_673 : decode cL_isSound 673 = .ok (.iadd, 1) := by decide +kernel
theorem dL_isSound_674 : decode cL_isSound 674 = .ok (.goto 4, 3) := by decide +kernel
theorem dL_isSound_677 : decode cL_isSound 677 = .ok (.iconst 5, 1) := by decide +kernel
theorem dL_isSound_678 : decode cL_isSound 678 = .ok (.if_icmp .ne 17, 3) := by decide +kernel
theorem dL_isSound_681 : decode cL_isSound 681 = .ok (.aload_n 0, 1) := by decide +kernel
theorem dL_isSound_682 : decode cL_isSound 682 = .ok (.iconst 4, 1) := by decide +kernel
theorem dL_isSound_683 : decode cL_isSound 683 = .ok (.invokevirtual 94, 3) := by decide +kernel
theorem dL_isSound_686 : decode cL_isSound 686 = .ok (.bipush 20, 2) := by decide +kernel
theorem dL_isSound_688 : decode cL_isSound 688 = .ok (.if_icmp .gt 7, 3) := by decide +kernel
theorem dL_isSound_691 : decode cL_isSound 691 = .ok (.iconst 1, 1) := by decide +kernel
theorem dL_isSound_692 : decode cL_isSound 692 = .ok (.goto 4, 3) := by decide +kernel
theorem dL_isSound_695 : decode cL_isSound 695 = .ok (.iconst 0, 1) := by decide +kernel
theorem dL_isSound_696 : decode cL_isSound 696 = .ok (.ireturn, 1) := by decide +kernel
theorem dL_isTraded_0 : decode cL_isTraded 0 = .ok (.iload 4, 2) := by decide +kernel
theorem dL_isTraded_2 : decode cL_isTraded 2 = .ok (.aload_n 1, 1) := by decide +kernel
theorem dL_isTraded_3 : decode cL_isTraded 3 = .ok (.iconst 0, 1) := by decide +kernel
theorem dL_isTraded_4 : decode cL_isTraded 4 = .ok (.iaload, 1) := by decide +kernel
theorem dL_isTraded_5 : decode cL_isTraded 5 = .ok (.irem, 1) := by decide +kernel
theorem dL_isTraded_6 : decode cL_isTraded 6 = .ok (.istore 5, 2) := by decide +kernel
theorem dL_isTraded_8 : decode cL_isTraded 8 = .ok (.iload 4, 2) := by decide +kernel
theorem dL_isTraded_10 : decode cL_isTraded 10 = .ok (.bipush 12, 2) := by decide +kernel
theorem dL_isTraded_12 : decode cL_isTraded 12 = .ok (.idiv, 1) := by decide +kernel
theorem dL_isTraded_13 : decode cL_isTraded 13 = .ok (.aload_n 1, 1) := by decide +kernel
theorem dL_isTraded_14 : decode cL_isTraded 14 = .ok (.iconst 0, 1) := by decide +kernel
theorem dL_isTraded_15 : decode cL_isTraded 15 = .ok (.iaload, 1) := by decide +kernel
theorem dL_isTraded_16 : decode cL_isTraded 16 = .ok (.irem, 1) := by decide +kernel
theorem dL_isTraded_17 : decode cL_isTraded 17 = .ok (.istore 6, 2) := by decide +kernel
theorem dL_isTraded_19 : decode cL_isTraded 19 = .ok (.iload 4, 2) := by decide +kernel
theorem dL_isTraded_21 : decode cL_isTraded 21 = .ok (.sipush 144, 3) := by decide +kernel
theorem dL_isTraded_24 : decode cL_isTraded 24 = .ok (.idiv, 1) := by decide +kernel
theorem dL_isTraded_25 : decode cL_isTraded 25 = .ok (.istore 7, 2) := by decide +kernel
theorem dL_isTraded_27 : decode cL_isTraded 27 = .ok (.aload_n 0, 1) := by decide +kernel
theorem dL_isTraded_28 : decode cL_isTraded 28 = .ok (.iload 5, 2) := by decide +kernel
theorem dL_isTraded_30 : decode cL_isTraded 30 = .ok (.iconst 4, 1) := by decide +kernel
theorem dL_isTraded_31 : decode cL_isTraded 31 = .ok (.invokevirtual 85, 3) := by decide +kernel
theorem dL_isTraded_34 : decode cL_isTraded 34 = .ok (.ifCond .ne 7, 3) := by decide +kernel
theorem dL_isTraded_37 : decode cL_isTraded 37 = .ok (.iconst 1, 1) := by decide +kernel
theorem dL_isTraded_38 : decode cL_isTraded 38 = .ok (.goto 4, 3) := by decide +kernel
theorem dL_isTraded_41 : decode cL_isTraded 41 = .ok (.iconst 0, 1) := by decide +kernel
theorem dL_isTraded_42 : decode cL_isTraded 42 = .ok (.istore 8, 2) := by decide +kernel
theorem dL_isTraded_44 : decode cL_isTraded 44 = .ok (.aload_n 0, 1) := by decide +kernel
theorem dL_isTraded_45 : decode cL_isTraded 45 = .ok (.iload 5, 2) := by decide +kernel
theorem dL_isTraded_47 : decode cL_isTraded 47 = .ok (.iconst 3, 1) := by decide +kernel
theorem dL_isTraded_48 : decode cL_isTraded 48 = .ok (.invokevirtual 85, 3) := by decide +kernel
theorem dL_isTraded_51 : decode cL_isTraded 51 = .ok (.istore 9, 2) := by decide +kernel
theorem dL_isTraded_53 : decode cL_isTraded 53 = .ok (.iload_n 3, 1) := by decide +kernel
theorem dL_isTraded_54 : decode cL_isTraded 54 = .ok (.iconst 2, 1) := by decide +kernel
theorem dL_isTraded_55 : decode cL_isTraded 55 = .ok (.if_icmp .ge 225, 3) := by decide +kernel
theorem dL_isTraded_58 : decode cL_isTraded 58 = .ok (.iconst 1, 1) := by decide +kernel
theorem dL_isTraded_59 : decode cL_isTraded 59 = .ok (.iload 7, 2) := by decide +kernel
theorem dL_isTraded_61 : decode cL_isTraded 61 = .ok (.iload 7, 2) := by decide +kernel
theorem dL_isTraded_63 : decode cL_isTraded 63 = .ok (.iconst 3, 1) := by decide +kernel
theorem dL_isTraded_64 : decode cL_isTraded 64 = .ok (.irem, 1) := by decide +kernel
theorem dL_isTraded_65 : decode cL_isTraded 65 = .ok (.ifCond .ne 8, 3) := by decide +kernel
theorem dL_isTraded_68 : decode cL_isTraded 68 = .ok (.bipush 100, 2) := by decide +kernel
theorem dL_isTraded_70 : decode cL_isTraded 70 = .ok (.goto 5, 3) := by decide +kernel
theorem dL_isTraded_73 : decode cL_isTraded 73 = .ok (.bipush 30, 2) := by decide +kernel
theorem dL_isTraded_75 : decode cL_isTraded 75 = .ok (.irem, 1) := by decide +kernel
theorem dL_isTraded_76 : decode cL_isTraded 76 = .ok (.iadd, 1) := by decide +kernel
theorem dL_isTraded_77 : decode cL_isTraded 77 = .ok (.istore 10, 2) := by decide +kernel
theorem dL_isTraded_79 : decode cL_isTraded 79 = .ok (.iload 7, 2) := by decide +kernel
theorem dL_isTraded_81 : decode cL_isTraded 81 = .ok (.bipush 100, 2) := by decide +kernel
theorem dL_isTraded_83 : decode cL_isTraded 83 = .ok (.idiv, 1) := by decide +kernel
theorem dL_isTraded_84 : decode cL_isTraded 84 = .ok (.bipush 50, 2) := by decide +kernel
theorem dL_isTraded_86 : decode cL_isTraded 86 = .ok (.irem, 1) := by decide +kernel
theorem dL_isTraded_87 : decode cL_isTraded 87 = .ok (.istore 11, 2) := by decide +kernel
theorem dL_isTraded_89 : decode cL_isTraded 89 = .ok (.aload_n 0, 1) := by decide +kernel
theorem dL_isTraded_90 : decode cL_isTraded 90 = .ok (.iload 6, 2) := by decide +kernel
theorem dL_isTraded_92 : decode cL_isTraded 92 = .ok (.bipush 7, 2) := by decide +kernel
theorem dL_isTraded_94 : decode cL_isTraded 94 = .ok (.invokevirtual 85, 3) := by decide +kernel
theorem dL_isTraded_97 : decode cL_isTraded 97 = .ok (.istore 12, 2) := by decide +kernel
theorem dL_isTraded_99 : decode cL_isTraded 99 = .ok (.aload_n 0, 1) := by decide +kernel
theorem dL_isTraded_100 : decode cL_isTraded 100 = .ok (.iload 6, 2) := by decide +kernel
theorem dL_isTraded_102 : decode cL_isTraded 102 = .ok (.iconst 3, 1) := by decide +kernel
theorem dL_isTraded_103 : decode cL_isTraded 103 = .ok (.invokevirtual 85, 3) := by decide +kernel
theorem dL_isTraded_106 : decode cL_isTraded 106 = .ok (.istore 13, 2) := by decide +kernel
theorem dL_isTraded_108 : decode cL_isTraded 108 = .ok (.aload_n 0, 1) := by decide +kernel
theorem dL_isTraded_109 : decode cL_isTraded 109 = .ok (.bipush 15, 2) := by decide +kernel
theorem dL_isTraded_111 : decode cL_isTraded 111 = .ok (.iload 5, 2) := by decide +kernel
theorem dL_isTraded_113 : decode cL_isTraded 113 = .ok (.iload 6, 2) := by decide +kernel
theorem dL_isTraded_115 : decode cL_isTraded 115 = .ok (.iload 10, 2) := by decide +kernel
theorem dL_isTraded_117 : decode cL_isTraded 117 = .ok (.iload 11, 2) := by decide +kernel
theorem dL_isTraded_119 : decode cL_isTraded 119 = .ok (.invokestatic 123, 3) := by decide +kernel
theorem dL_isTraded_122 : decode cL_isTraded 122 = .ok (.istore 14, 2) := by decide +kernel
theorem dL_isTraded_124 : decode cL_isTraded 124 = .ok (.iload 5, 2) := by decide +kernel
theorem dL_isTraded_126 : decode cL_isTraded 126 = .ok (.iload 6, 2) := by decide +kernel
theorem dL_isTraded_128 : decode cL_isTraded 128 = .ok (.if_icmp .ne 16, 3) := by decide +kernel
theorem dL_isTraded_131 : decode cL_isTraded 131 = .ok (.iload 14, 2) := by decide +kernel
theorem dL_isTraded_133 : decode cL_isTraded 133 = .ok (.ldc 111, 2) := by decide +kernel
theorem dL_isTraded_135 : decode cL_isTraded 135 = .ok (.if_icmp .ne 7, 3) := by decide +kernel
theorem dL_isTraded_138 : decode cL_isTraded 138 = .ok (.iconst 1, 1) := by decide +kernel
theorem dL_isTraded_139 : decode cL_isTraded 139 = .ok (.goto 4, 3) := by decide +kernel
theorem dL_isTraded_142 : decode cL_isTraded 142 = .ok (.iconst 0, 1) := by decide +kernel
theorem dL_isTraded_143 : decode cL_isTraded 143 = .ok (.ireturn, 1) := by decide +kernel
theorem dL_isTraded_144 : decode cL_isTraded 144 = .ok (.iload 14, 2) := by decide +kernel
theorem dL_isTraded_146 : decode cL_isTraded 146 = .ok (.ifCond .ne 96, 3) := by decide +kernel
theorem dL_isTraded_149 : decode cL_isTraded 149 = .ok (.iload 8, 2) := by decide +kernel
theorem dL_isTraded_151 : decode cL_isTraded 151 = .ok (.ifCond .ne 87, 3) := by decide +kernel
theorem dL_isTraded_154 : decode cL_isTraded 154 = .ok (.iload 11, 2) := by decide +kernel
theorem dL_isTraded_156 : decode cL_isTraded 156 = .ok (.iload 9, 2) := by decide +kernel
theorem dL_isTraded_158 : decode cL_isTraded 158 = .ok (.if_icmp .gt 80, 3) := by decide +kernel
theorem dL_isTraded_161 : decode cL_isTraded 161 = .ok (.iload 12, 2) := by decide +kernel
theorem dL_isTraded_163 : decode cL_isTraded 163 = .ok (.iload 10, 2) := by decide +kernel
theorem dL_isTraded_165 : decode cL_isTraded 165 = .ok (.iadd, 1) := by decide +kernel
theorem dL_isTraded_166 : decode cL_isTraded 166 = .ok (.bipush 100, 2) := by decide +kernel
theorem dL_isTraded_168 : decode cL_isTraded 168 = .ok (.if_icmp .gt 70, 3) := by decide +kernel
theorem dL_isTraded_171 : decode cL_isTraded 171 = .ok (.aload_n 0, 1) := by decide +kernel
theorem dL_isTraded_172 : decode cL_isTraded 172 = .ok (.iload 6, 2) := by decide +kernel
theorem dL_isTraded_174 : decode cL_isTraded 174 = .ok (.bipush 7, 2) := by decide +kernel
theorem dL_isTraded_176 : decode cL_isTraded 176 = .ok (.invokevirtual 85, 3) := by decide +kernel
theorem dL_isTraded_179 : decode cL_isTraded 179 = .ok (.iload 12, 2) := by decide +kernel
theorem dL_isTraded_181 : decode cL_isTraded 181 = .ok (.iload 10, 2) := by decide +kernel
theorem dL_isTraded_183 : decode cL_isTraded 183 = .ok (.iadd, 1) := by decide +kernel
theorem dL_isTraded_184 : decode cL_isTraded 184 = .ok (.if_icmp .ne 54, 3) := by decide +kernel
theorem dL_isTraded_187 : decode cL_isTraded 187 = .ok (.aload_n 0, 1) := by decide +kernel
theorem dL_isTraded_188 : decode cL_isTraded 188 = .ok (.iload 5, 2) := by decide +kernel
theorem dL_isTraded_190 : decode cL_isTraded 190 = .ok (.iconst 3, 1) := by decide +kernel
theorem dL_isTraded_191 : decode cL_isTraded 191 = .ok (.invokevirtual 85, 3) := by decide +kernel
theorem dL_isTraded_194 : decode cL_isTraded 194 = .ok (.iload 9, 2) := by decide +kernel
theorem dL_isTraded_196 : decode cL_isTraded 196 = .ok (.iload 11, 2) := by decide +kernel
theorem dL_isTraded_198 : decode cL_isTraded 198 = .ok (.isub, 1) := by decide +kernel
theorem dL_isTraded_199 : decode cL_isTraded 199 = .ok (.if_icmp .ne 39, 3) := by decide +kernel
theorem dL_isTraded_202 : decode cL_isTraded 202 = .ok (.aload_n 0, 1) := by decide +kernel
theorem dL_isTraded_203 : decode cL_isTraded 203 = .ok (.iload 6, 2) := by decide +kernel
theorem dL_isTraded_205 : decode cL_isTraded 205 = .ok (.iconst 3, 1) := by decide +kernel
theorem dL_isTraded_206 : decode cL_isTraded 206 = .ok (.invokevirtual 85, 3) := by decide +kernel
theorem dL_isTraded_209 : decode cL_isTraded 209 = .ok (.iload 13, 2) := by decide +kernel
theorem dL_isTraded_211 : decode cL_isTraded 211 = .ok (.iload 11, 2) := by decide +kernel
theorem dL_isTraded_213 : decode cL_isTraded 213 = .ok (.iadd, 1) := by decide +kernel
theorem dL_isTraded_214 : decode cL_isTraded 214 = .ok (.if_icmp .ne 24, 3) := by decide +kernel
theorem dL_isTraded_217 : decode cL_isTraded 217 = .ok (.aload_n 0, 1) := by decide +kernel
theorem dL_isTraded_218 : decode cL_isTraded 218 = .ok (.bipush 15, 2) := by decide +kernel
theorem dL_isTraded_220 : decode cL_isTraded 220 = .ok (.iload 5, 2) := by decide +kernel
theorem dL_isTraded_222 : decode cL_isTraded 222 = .ok (.iload 6, 2) := by decide +kernel
theorem dL_isTraded_224 : decode cL_isTraded 224 = .ok (.iconst 1, 1) := by decide +kernel
theorem dL_isTraded_225 : decode cL_isTraded 225 = .ok (.iconst 0, 1) := by decide +kernel
theorem dL_isTraded_226 : decode cL_isTraded 226 = .ok (.invokestatic 123, 3) := by decide +kernel
theorem dL_isTraded_229 : decode cL_isTraded 229 = .ok (.ldc 114, 2) := by decide +kernel
theorem dL_isTraded_231 : decode cL_isTraded 231 = .ok (.if_icmp .ne 7, 3) := by decide +kernel
theorem dL_isTraded_234 : decode cL_isTraded 234 = .ok (.iconst 1, 1) := by decide +kernel
theorem dL_isTraded_235 : decode cL_isTraded 235 = .ok (.goto 44, 3) := by decide +kernel
theorem dL_isTraded_238 : decode cL_isTraded 238 = .ok (.iconst 0, 1) := by decide +kernel
theorem dL_isTraded_239 : decode cL_isTraded 239 = .ok (.goto 40, 3) := by decide +kernel
theorem dL_isTraded_242 : decode cL_isTraded 242 = .ok (.iload 14, 2) := by decide +kernel
theorem dL_isTraded_244 : decode cL_isTraded 244 = .ok (.ldc 114, 2) := by decide +kernel
theorem dL_isTraded_246 : decode cL_isTraded 246 = .ok (.if_icmp .ne 32, 3) := by decide +kernel
theorem dL_isTraded_249 : decode cL_isTraded 249 = .ok (.aload_n 0, 1) := by decide +kernel
theorem dL_isTraded_250 : decode cL_isTraded 250 = .ok (.iload 6, 2) := by decide +kernel
theorem dL_isTraded_252 : decode cL_isTraded 252 = .ok (.bipush 7, 2) := by decide +kernel
theorem dL_isTraded_254 : decode cL_isTraded 254 = .ok (.invokevirtual 85, 3) := by decide +kernel
theorem dL_isTraded_257 : decode cL_isTraded 257 = .ok (.iload 12, 2) := by decide +kernel
theorem dL_isTraded_259 : decode cL_isTraded 259 = .ok (.if_icmp .ne 19, 3) := by decide +kernel
theorem dL_isTraded_262 : decode cL_isTraded 262 = .ok (.aload_n 0, 1) := by decide +kernel
theorem dL_isTraded_263 : decode cL_isTraded 263 = .ok (.iload 5, 2) := by decide +kernel
theorem dL_isTraded_265 : decode cL_isTraded 265 = .ok (.iconst 3, 1) := by decide +kernel
theorem dL_isTraded_266 : decode cL_isTraded 266 = .ok (.invokevirtual 85, 3) := by decide +kernel
theorem dL_isTraded_269 : decode cL_isTraded 269 = .ok (.iload 9, 2) := by decide +kernel
theorem dL_isTraded_271 : decode cL_isTraded 271 = .ok (.if_icmp .ne 7, 3) := by decide +kernel
theorem dL_isTraded_274 : decode cL_isTraded 274 = .ok (.iconst 1, 1) := by decide +kernel
theorem dL_isTraded_275 : decode cL_isTraded 275 = .ok (.goto 4, 3) := by decide +kernel
theorem dL_isTraded_278 : decode cL_isTraded 278 = .ok (.iconst 0, 1) := by decide +kernel
theorem dL_isTraded_279 : decode cL_isTraded 279 = .ok (.ireturn, 1) := by decide +kernel
theorem dL_isTraded_280 : decode cL_isTraded 280 = .ok (.iload_n 3, 1) := by decide +kernel
theorem dL_isTraded_281 : decode cL_isTraded 281 = .ok (.iconst 2, 1) := by decide +kernel
theorem dL_isTraded_282 : decode cL_isTraded 282 = .ok (.if_icmp .ne 97, 3) := by decide +kernel
theorem dL_isTraded_285 : decode cL_isTraded 285 = .ok (.aload_n 0, 1) := by decide +kernel
theorem dL_isTraded_286 : decode cL_isTraded 286 = .ok (.iload 6, 2) := by decide +kernel
theorem dL_isTraded_288 : decode cL_isTraded 288 = .ok (.bipush 7, 2) := by decide +kernel
theorem dL_isTraded_290 : decode cL_isTraded 290 = .ok (.invokevirtual 85, 3) := by decide +kernel
theorem dL_isTraded_293 : decode cL_isTraded 293 = .ok (.istore 10, 2) := by decide +kernel
theorem dL_isTraded_295 : decode cL_isTraded 295 = .ok (.aload_n 0, 1) := by decide +kernel
theorem dL_isTraded_296 : decode cL_isTraded 296 = .ok (.bipush 16, 2) := by decide +kernel
theorem dL_isTraded_298 : decode cL_isTraded 298 = .ok (.iload 5, 2) := by decide +kernel
theorem dL_isTraded_300 : decode cL_isTraded 300 = .ok (.iload 6, 2) := by decide +kernel
theorem dL_isTraded_302 : decode cL_isTraded 302 = .ok (.iconst 0, 1) := by decide +kernel
theorem dL_isTraded_303 : decode cL_isTraded 303 = .ok (.iconst 0, 1) := by decide +kernel
theorem dL_isTraded_304 : decode cL_isTraded 304 = .ok (.invokestatic 123, 3) := by decide +kernel
theorem dL_isTraded_307 : decode cL_isTraded 307 = .ok (.istore 11, 2) := by decide +kernel
theorem dL_isTraded_309 : decode cL_isTraded 309 = .ok (.iload 11, 2) := by decide +kernel
theorem dL_isTraded_311 : decode cL_isTraded 311 = .ok (.ldc 114, 2) := by decide +kernel
theorem dL_isTraded_313 : decode cL_isTraded 313 = .ok (.if_icmp .ne 24, 3) := by decide +kernel
theorem dL_isTraded_316 : decode cL_isTraded 316 = .ok (.aload_n 0, 1) := by decide +kernel
theorem dL_isTraded_317 : decode cL_isTraded 317 = .ok (.iload 6, 2) := by decide +kernel
theorem dL_isTraded_319 : decode cL_isTraded 319 = .ok (.bipush 7, 2) := by decide +kernel
theorem dL_isTraded_321 : decode cL_isTraded 321 = .ok (.invokevirtual 85, 3) := by decide +kernel
theorem dL_isTraded_324 : decode cL_isTraded 324 = .ok (.iload 10, 2) := by decide +kernel
theorem dL_isTraded_326 : decode cL_isTraded 326 = .ok (.if_icmp .ne 7, 3) := by decide +kernel
theorem dL_isTraded_329 : decode cL_isTraded 329 = .ok (.iconst 1, 1) := by decide +kernel
theorem dL_isTraded_330 : decode cL_isTraded 330 = .ok (.goto 48, 3) := by decide +kernel
theorem dL_isTraded_333 : decode cL_isTraded 333 = .ok (.iconst 0, 1) := by decide +kernel
theorem dL_isTraded_334 : decode cL_isTraded 334 = .ok (.goto 44, 3) := by decide +kernel
theorem dL_isTraded_337 : decode cL_isTraded 337 = .ok (.iload 11, 2) := by decide +kernel
theorem dL_isTraded_339 : decode cL_isTraded 339 = .ok (.iconst 1, 1) := by decide +kernel
theorem dL_isTraded_340 : decode cL_isTraded 340 = .ok (.if_icmp .lt 37, 3) := by decide +kernel
theorem dL_isTraded_343 : decode cL_isTraded 343 = .ok (.aload_n 0, 1) := by decide +kernel
theorem dL_isTraded_344 : decode cL_isTraded 344 = .ok (.iload 6, 2) := by decide +kernel
theorem dL_isTraded_346 : decode cL_isTraded 346 = .ok (.bipush 7, 2) := by decide +kernel
theorem dL_isTraded_348 : decode cL_isTraded 348 = .ok (.invokevirtual 85, 3) := by decide +kernel
theorem dL_isTraded_351 : decode cL_isTraded 351 = .ok (.iload 10, 2) := by decide +kernel
theorem dL_isTraded_353 : decode cL_isTraded 353 = .ok (.iload 11, 2) := by decide +kernel
theorem dL_isTraded_355 : decode cL_isTraded 355 = .ok (.isub, 1) := by decide +kernel
theorem dL_isTraded_356 : decode cL_isTraded 356 = .ok (.if_icmp .ne 21, 3) := by decide +kernel
theorem dL_isTraded_359 : decode cL_isTraded 359 = .ok (.aload_n 0, 1) := by decide +kernel
theorem dL_isTraded_360 : decode cL_isTraded 360 = .ok (.bipush 16, 2) := by decide +kernel
theorem dL_isTraded_362 : decode cL_isTraded 362 = .ok (.iload 5, 2) := by decide +kernel
theorem dL_isTraded_364 : decode cL_isTraded 364 = .ok (.iload 6, 2) := by decide +kernel
theorem dL_isTraded_366 : decode cL_isTraded 366 = .ok (.iconst 0, 1) := by decide +kernel
theorem dL_isTraded_367 : decode cL_isTraded 367 = .ok (.invokestatic 149, 3) := by decide +kernel
theorem dL_isTraded_370 : decode cL_isTraded 370 = .ok (.ifCond .eq 7, 3) := by decide +kernel
theorem dL_isTraded_373 : decode cL_isTraded 373 = .ok (.iconst 1, 1) := by decide +kernel
theorem dL_isTraded_374 : decode cL_isTraded 374 = .ok (.goto 4, 3) := by decide +kernel
theorem dL_isTraded_377 : decode cL_isTraded 377 = .ok (.iconst 0, 1) := by decide +kernel
theorem dL_isTraded_378 : decode cL_isTraded 378 = .ok (.ireturn, 1) := by decide +kernel
theorem dL_isTraded_379 : decode cL_isTraded 379 = .ok (.aload_n 1, 1) := by decide +kernel
theorem dL_isTraded_380 : decode cL_isTraded 380 = .ok (.iconst 1, 1) := by decide +kernel
theorem dL_isTraded_381 : decode cL_isTraded 381 = .ok (.iaload, 1) := by decide +kernel
theorem dL_isTraded_382 : decode cL_isTraded 382 = .ok (.ifCond .ne 5, 3) := by decide +kernel
theorem dL_isTraded_385 : decode cL_isTraded 385 = .ok (.iconst 1, 1) := by decide +kernel
theorem dL_isTraded_386 : decode cL_isTraded 386 = .ok (.ireturn, 1) := by decide +kernel
theorem dL_isTraded_387 : decode cL_isTraded 387 = .ok (.iload 7, 2) := by decide +kernel
theorem dL_isTraded_389 : decode cL_isTraded 389 = .ok (.aload_n 1, 1) := by decide +kernel
theorem dL_isTraded_390 : decode cL_isTraded 390 = .ok (.iconst 1, 1) := by decide +kernel
theorem dL_isTraded_391 : decode cL_isTraded 391 = .ok (.iaload, 1) := by decide +kernel
theorem dL_isTraded_392 : decode cL_isTraded 392 = .ok (.irem, 1) := by decide +kernel
theorem dL_isTraded_393 : decode cL_isTraded 393 = .ok (.istore 10, 2) := by decide +kernel
theorem dL_isTraded_395 : decode cL_isTraded 395 = .ok (.aload_n 0, 1) := by decide +kernel
theorem dL_isTraded_396 : decode cL_isTraded 396 = .ok (.iload 10, 2) := by decide +kernel
theorem dL_isTraded_398 : decode cL_isTraded 398 = .ok (.iconst 0, 1) := by decide +kernel
theorem dL_isTraded_399 : decode cL_isTraded 399 = .ok (.invokevirtual 82, 3) := by decide +kernel
theorem dL_isTraded_402 : decode cL_isTraded 402 = .ok (.istore 11, 2) := by decide +kernel
theorem dL_isTraded_404 : decode cL_isTraded 404 = .ok (.iload_n 3, 1) := by decide +kernel
theorem dL_isTraded_405 : decode cL_isTraded 405 = .ok (.bipush 6, 2) := by decide +kernel
theorem dL_isTraded_407 : decode cL_isTraded 407 = .ok (.if_icmp .ge 213, 3) := by decide +kernel
theorem dL_isTraded_410 : decode cL_isTraded 410 = .ok (.iload 7, 2) := by decide +kernel
theorem dL_isTraded_412 : decode cL_isTraded 412 = .ok (.bipush 30, 2) := by decide +kernel
theorem dL_isTraded_414 : decode cL_isTraded 414 = .ok (.idiv, 1) := by decide +kernel
theorem dL_isTraded_415 : decode cL_isTraded 415 = .ok (.bipush 60, 2) := by decide +kernel
theorem dL_isTraded_417 : decode cL_isTraded 417 = .ok (.irem, 1) := by decide +kernel
theorem dL_isTraded_418 : decode cL_isTraded 418 = .ok (.istore 12, 2) := by decide +kernel
theorem dL_isTraded_420 : decode cL_isTraded 420 = .ok (.aload_n 0, 1) := by decide +kernel
theorem dL_isTraded_421 : decode cL_isTraded 421 = .ok (.iload 11, 2) := by decide +kernel
theorem dL_isTraded_423 : decode cL_isTraded 423 = .ok (.iconst 3, 1) := by decide +kernel
theorem dL_isTraded_424 : decode cL_isTraded 424 = .ok (.invokevirtual 85, 3) := by decide +kernel
theorem dL_isTraded_427 : decode cL_isTraded 427 = .ok (.istore 13, 2) := by decide +kernel
theorem dL_isTraded_429 : decode cL_isTraded 429 = .ok (.aload_n 0, 1) := by decide +kernel
theorem dL_isTraded_430 : decode cL_isTraded 430 = .ok (.iload 10, 2) := by decide +kernel
theorem dL_isTraded_432 : decode cL_isTraded 432 = .ok (.iconst 4, 1) := by decide +kernel
theorem dL_isTraded_433 : decode cL_isTraded 433 = .ok (.invokevirtual 82, 3) := by decide +kernel
theorem dL_isTraded_436 : decode cL_isTraded 436 = .ok (.istore 14, 2) := by decide +kernel
theorem dL_isTraded_438 : decode cL_isTraded 438 = .ok (.aload_n 0, 1) := by decide +kernel
theorem dL_isTraded_439 : decode cL_isTraded 439 = .ok (.iload 10, 2) := by decide +kernel
theorem dL_isTraded_441 : decode cL_isTraded 441 = .ok (.iconst 3, 1) := by decide +kernel
theorem dL_isTraded_442 : decode cL_isTraded 442 = .ok (.invokevirtual 82, 3) := by decide +kernel
theorem dL_isTraded_445 : decode cL_isTraded 445 = .ok (.iconst 1, 1) := by decide +kernel
theorem dL_isTraded_446 : decode cL_isTraded 446 = .ok (.if_icmp .ne 19, 3) := by decide +kernel
theorem dL_isTraded_449 : decode cL_isTraded 449 = .ok (.iload 8, 2) := by decide +kernel
theorem dL_isTraded_451 : decode cL_isTraded 451 = .ok (.ifCond .ne 14, 3) := by decide +kernel
theorem dL_isTraded_454 : decode cL_isTraded 454 = .ok (.iload 12, 2) := by decide +kernel
theorem dL_isTraded_456 : decode cL_isTraded 456 = .ok (.iload 9, 2) := by decide +kernel
theorem dL_isTraded_458 : decode cL_isTraded 458 = .ok (.if_icmp .gt 7, 3) := by decide +kernel
theorem dL_isTraded_461 : decode cL_isTraded 461 = .ok (.iconst 1, 1) := by decide +kernel
theorem dL_isTraded_462 : decode cL_isTraded 462 = .ok (.goto 4, 3) := by decide +kernel
theorem dL_isTraded_465 : decode cL_isTraded 465 = .ok (.iconst 0, 1) := by decide +kernel
theorem dL_isTraded_466 : decode cL_isTraded 466 = .ok (.istore 15, 2) := by decide +kernel
theorem dL_isTraded_468 : decode cL_isTraded 468 = .ok (.aload_n 0, 1) := by decide +kernel
theorem dL_isTraded_469 : decode cL_isTraded 469 = .ok (.bipush 17, 2) := by decide +kernel
theorem dL_isTraded_471 : decode cL_isTraded 471 = .ok (.iload 10, 2) := by decide +kernel
theorem dL_isTraded_473 : decode cL_isTraded 473 = .ok (.iload 5, 2) := by decide +kernel
theorem dL_isTraded_475 : decode cL_isTraded 475 = .ok (.iload 12, 2) := by decide +kernel
theorem dL_isTraded_477 : decode cL_isTraded 477 = .ok (.iconst 0, 1) := by decide +kernel
theorem dL_isTraded_478 : decode cL_isTraded 478 = .ok (.invokestatic 123, 3) := by decide +kernel
theorem dL_isTraded_481 : decode cL_isTraded 481 = .ok (.istore 16, 2) := by decide +kernel
theorem dL_isTraded_483 : decode cL_isTraded 483 = .ok (.iload 11, 2) := by decide +kernel
theorem dL_isTraded_485 : decode cL_isTraded 485 = .ok (.iload 5, 2) := by decide +kernel
theorem dL_isTraded_487 : decode cL_isTraded 487 = .ok (.if_icmp .eq 8, 3) := by decide +kernel
theorem dL_isTraded_490 : decode cL_isTraded 490 = .ok (.iload 15, 2) := by decide +kernel
theorem dL_isTraded_492 : decode cL_isTraded 492 = .ok (.ifCond .ne 28, 3) := by decide +kernel
theorem dL_isTraded_495 : decode cL_isTraded 495 = .ok (.iload 16, 2) := by decide +kernel
theorem dL_isTraded_497 : decode cL_isTraded 497 = .ok (.iload 11, 2) := by decide +kernel
theorem dL_isTraded_499 : decode cL_isTraded 499 = .ok (.iload 5, 2) := by decide +kernel
theorem dL_isTraded_501 : decode cL_isTraded 501 = .ok (.if_icmp .ne 8, 3) := by decide +kernel
theorem dL_isTraded_504 : decode cL_isTraded 504 = .ok (.ldc 111, 2) := by decide +kernel
theorem dL_isTraded_506 : decode cL_isTraded 506 = .ok (.goto 5, 3) := by decide +kernel
theorem dL_isTraded_509 : decode cL_isTraded 509 = .ok (.ldc 114, 2) := by decide +kernel
theorem dL_isTraded_511 : decode cL_isTraded 511 = .ok (.if_icmp .ne 7, 3) := by decide +kernel
theorem dL_isTraded_514 : decode cL_isTraded 514 = .ok (.iconst 1, 1) := by decide +kernel
theorem dL_isTraded_515 : decode cL_isTraded 515 = .ok (.goto 4, 3) := by decide +kernel
theorem dL_isTraded_518 : decode cL_isTraded 518 = .ok (.iconst 0, 1) := by decide +kernel
theorem dL_isTraded_519 : decode cL_isTraded 519 = .ok (.ireturn, 1) := by decide +kernel
theorem dL_isTraded_520 : decode cL_isTraded 520 = .ok (.aload_n 2, 1) := by decide +kernel
theorem dL_isTraded_521 : decode cL_isTraded 521 = .ok (.iload 10, 2) := by decide +kernel
theorem dL_isTraded_523 : decode cL_isTraded 523 = .ok (.iload 12, 2) := by decide +kernel
theorem dL_isTraded_525 : decode cL_isTraded 525 = .ok (.iastore, 1) := by decide +kernel
theorem dL_isTraded_526 : decode cL_isTraded 526 = .ok (.aload_n 2, 1) := by decide +kernel
theorem dL_isTraded_527 : decode cL_isTraded 527 = .ok (.bipush 30, 2) := by decide +kernel
theorem dL_isTraded_529 : decode cL_isTraded 529 = .ok (.iload 10, 2) := by decide +kernel
theorem dL_isTraded_531 : decode cL_isTraded 531 = .ok (.iadd, 1) := by decide +kernel
theorem dL_isTraded_532 : decode cL_isTraded 532 = .ok (.iload 11, 2) := by decide +kernel
theorem dL_isTraded_534 : decode cL_isTraded 534 = .ok (.iconst 1, 1) := by decide +kernel
theorem dL_isTraded_535 : decode cL_isTraded 535 = .ok (.iadd, 1) := by decide +kernel
theorem dL_isTraded_536 : decode cL_isTraded 536 = .ok (.iastore, 1) := by decide +kernel
theorem dL_isTraded_537 : decode cL_isTraded 537 = .ok (.iload 16, 2) := by decide +kernel
theorem dL_isTraded_539 : decode cL_isTraded 539 = .ok (.iload 11, 2) := by decide +kernel
theorem dL_isTraded_541 : decode cL_isTraded 541 = .ok (.if_icmp .ne 77, 3) := by decide +kernel
theorem dL_isTraded_544 : decode cL_isTraded 544 = .ok (.aload_n 0, 1) := by decide +kernel
theorem dL_isTraded_545 : decode cL_isTraded 545 = .ok (.iload 10, 2) := by decide +kernel
theorem dL_isTraded_547 : decode cL_isTraded 547 = .ok (.iconst 0, 1) := by decide +kernel
theorem dL_isTraded_548 : decode cL_isTraded 548 = .ok (.invokevirtual 82, 3) := by decide +kernel
theorem dL_isTraded_551 : decode cL_isTraded 551 = .ok (.iload 5, 2) := by decide +kernel
theorem dL_isTraded_553 : decode cL_isTraded 553 = .ok (.if_icmp .ne 65, 3) := by decide +kernel
theorem dL_isTraded_556 : decode cL_isTraded 556 = .ok (.aload_n 0, 1) := by decide +kernel
theorem dL_isTraded_557 : decode cL_isTraded 557 = .ok (.iload 10, 2) := by decide +kernel
theorem dL_isTraded_559 : decode cL_isTraded 559 = .ok (.iconst 4, 1) := by decide +kernel
theorem dL_isTraded_560 : decode cL_isTraded 560 = .ok (.invokevirtual 82, 3) := by decide +kernel
theorem dL_isTraded_563 : decode cL_isTraded 563 = .ok (.iload 14, 2) := by decide +kernel
theorem dL_isTraded_565 : decode cL_isTraded 565 = .ok (.if_icmp .ne 53, 3) := by decide +kernel
theorem dL_isTraded_568 : decode cL_isTraded 568 = .ok (.aload_n 0, 1) := by decide +kernel
theorem dL_isTraded_569 : decode cL_isTraded 569 = .ok (.iload 5, 2) := by decide +kernel
theorem dL_isTraded_571 : decode cL_isTraded 571 = .ok (.iconst 3, 1) := by decide +kernel
theorem dL_isTraded_572 : decode cL_isTraded 572 = .ok (.invokevirtual 85, 3) := by decide +kernel
theorem dL_isTraded_575 : decode cL_isTraded 575 = .ok (.iload 9, 2) := by decide +kernel
theorem dL_isTraded_577 : decode cL_isTraded 577 = .ok (.iload 12, 2) := by decide +kernel
theorem dL_isTraded_579 : decode cL_isTraded 579 = .ok (.isub, 1) := by decide +kernel
theorem dL_isTraded_580 : decode cL_isTraded 580 = .ok (.if_icmp .ne 38, 3) := by decide +kernel
theorem dL_isTraded_583 : decode cL_isTraded 583 = .ok (.aload_n 0, 1) := by decide +kernel
theorem dL_isTraded_584 : decode cL_isTraded 584 = .ok (.iload 11, 2) := by decide +kernel
theorem dL_isTraded_586 : decode cL_isTraded 586 = .ok (.iconst 3, 1) := by decide +kernel
theorem dL_isTraded_587 : decode cL_isTraded 587 = .ok (.invokevirtual 85, 3) := by decide +kernel
theorem dL_isTraded_590 : decode cL_isTraded 590 = .ok (.iload 13, 2) := by decide +kernel
theorem dL_isTraded_592 : decode cL_isTraded 592 = .ok (.iload 12, 2) := by decide +kernel
theorem dL_isTraded_594 : decode cL_isTraded 594 = .ok (.iadd, 1) := by decide +kernel
theorem dL_isTraded_595 : decode cL_isTraded 595 = .ok (.if_icmp .ne 23, 3) := by decide +kernel
theorem dL_isTraded_598 : decode cL_isTraded 598 = .ok (.aload_n 0, 1) := by decide +kernel
theorem dL_isTraded_599 : decode cL_isTraded 599 = .ok (.aload_n 0, 1) := by decide +kernel
theorem dL_isTraded_600 : decode cL_isTraded 600 = .ok (.iload 10, 2) := by decide +kernel
theorem dL_isTraded_602 : decode cL_isTraded 602 = .ok (.iconst 1, 1) := by decide +kernel
theorem dL_isTraded_603 : decode cL_isTraded 603 = .ok (.invokevirtual 82, 3) := by decide +kernel
theorem dL_isTraded_606 : decode cL_isTraded 606 = .ok (.invokevirtual 79, 3) := by decide +kernel
theorem dL_isTraded_609 : decode cL_isTraded 609 = .ok (.iload 10, 2) := by decide +kernel
theorem dL_isTraded_611 : decode cL_isTraded 611 = .ok (.if_icmp .ne 7, 3) := by decide +kernel
theorem dL_isTraded_614 : decode cL_isTraded 614 = .ok (.iconst 1, 1) := by decide +kernel
theorem dL_isTraded_615 : decode cL_isTraded 615 = .ok (.goto 4, 3) := by decide +kernel
theorem dL_isTraded_618 : decode cL_isTraded 618 = .ok (.iconst 0, 1) := by decide +kernel
theorem dL_isTraded_619 : decode cL_isTraded 619 = .ok (.ireturn, 1) := by decide +kernel
theorem dL_isTraded_620 : decode cL_isTraded 620 = .ok (.aload_n 2, 1) := by decide +kernel
theorem dL_isTraded_621 : decode cL_isTraded 621 = .ok (.bipush 30, 2) := by decide +kernel
theorem dL_isTraded_623 : decode cL_isTraded 623 = .ok (.iload 10, 2) := by decide +kernel
theorem dL_isTraded_625 : decode cL_isTraded 625 = .ok (.iadd, 1) := by decide +kernel
theorem dL_isTraded_626 : decode cL_isTraded 626 = .ok (.iaload, 1) := by decide +kernel
theorem dL_isTraded_627 : decode cL_isTraded 627 = .ok (.iconst 1, 1) := by decide +kernel
theorem dL_isTraded_628 : decode cL_isTraded 628 = .ok (.isub, 1) := by decide +kernel
theorem dL_isTraded_629 : decode cL_isTraded 629 = .ok (.istore 12, 2) := by decide +kernel
theorem dL_isTraded_631 : decode cL_isTraded 631 = .ok (.iload 12, 2) := by decide +kernel
theorem dL_isTraded_633 : decode cL_isTraded 633 = .ok (.ifCond .ge 7, 3) := by decide +kernel
theorem dL_isTraded_636 : decode cL_isTraded 636 = .ok (.iconst 0, 1) := by decide +kernel
theorem dL_isTraded_637 : decode cL_isTraded 637 = .ok (.goto 10, 3) := by decide +kernel
theorem dL_isTraded_640 : decode cL_isTraded 640 = .ok (.aload_n 0, 1) := by decide +kernel
theorem dL_isTraded_641 : decode cL_isTraded 641 = .ok (.iload 12, 2) := by decide +kernel
theorem dL_isTraded_643 : decode cL_isTraded 643 = .ok (.iconst 3, 1) := by decide +kernel
theorem dL_isTraded_644 : decode cL_isTraded 644 = .ok (.invokevirtual 85, 3) := by decide +kernel
theorem dL_isTraded_647 : decode cL_isTraded 647 = .ok (.istore 13, 2) := by decide +kernel
theorem dL_isTraded_649 : decode cL_isTraded 649 = .ok (.aload_n 0, 1) := by decide +kernel
theorem dL_isTraded_650 : decode cL_isTraded 650 = .ok (.bipush 18, 2) := by decide +kernel
theorem dL_isTraded_652 : decode cL_isTraded 652 = .ok (.iload 10, 2) := by decide +kernel
theorem dL_isTraded_654 : decode cL_isTraded 654 = .ok (.iconst 0, 1) := by decide +kernel
theorem dL_isTraded_655 : decode cL_isTraded 655 = .ok (.iconst 0, 1) := by decide +kernel
theorem dL_isTraded_656 : decode cL_isTraded 656 = .ok (.iconst 0, 1) := by decide +kernel
theorem dL_isTraded_657 : decode cL_isTraded 657 = .ok (.invokestatic 123, 3) := by decide +kernel
theorem dL_isTraded_660 : decode cL_isTraded 660 = .ok (.istore 14, 2) := by decide +kernel
theorem dL_isTraded_662 : decode cL_isTraded 662 = .ok (.iload 14, 2) := by decide +kernel
theorem dL_isTraded_664 : decode cL_isTraded 664 = .ok (.ldc 114, 2) := by decide +kernel
theorem dL_isTraded_666 : decode cL_isTraded 666 = .ok (.if_icmp .eq 106, 3) := by decide +kernel
theorem dL_isTraded_669 : decode cL_isTraded 669 = .ok (.iload 12, 2) := by decide +kernel
theorem dL_isTraded_671 : decode cL_isTraded 671 = .ok (.ifCond .lt 105, 3) := by decide +kernel
theorem dL_isTraded_674 : decode cL_isTraded 674 = .ok (.iload 14, 2) := by decide +kernel
theorem dL_isTraded_676 : decode cL_isTraded 676 = .ok (.iconst (-1), 1) := by decide +kernel
theorem dL_isTraded_677 : decode cL_isTraded 677 = .ok (.if_icmp .ne 18, 3) := by decide +kernel
theorem dL_isTraded_680 : decode cL_isTraded 680 = .ok (.aload_n 0, 1) := by decide +kernel
theorem dL_isTraded_681 : decode cL_isTraded 681 = .ok (.iload 12, 2) := by decide +kernel
theorem dL_isTraded_683 : decode cL_isTraded 683 = .ok (.iconst 3, 1) := by decide +kernel
theorem dL_isTraded_684 : decode cL_isTraded 684 = .ok (.invokevirtual 85, 3) := by decide +kernel
theorem dL_isTraded_687 : decode cL_isTraded 687 = .ok (.iload 13, 2) := by decide +kernel
theorem dL_isTraded_689 : decode cL_isTraded 689 = .ok (.if_icmp .ne 87, 3) := by decide +kernel
theorem dL_isTraded_692 : decode cL_isTraded 692 = .ok (.goto 55, 3) := by decide +kernel
theorem dL_isTraded_695 : decode cL_isTraded 695 = .ok (.iload 14, 2) := by decide +kernel
theorem dL_isTraded_697 : decode cL_isTraded 697 = .ok (.ifCond .lt 79, 3) := by decide +kernel
theorem dL_isTraded_700 : decode cL_isTraded 700 = .ok (.iload 14, 2) := by decide +kernel
theorem dL_isTraded_702 : decode cL_isTraded 702 = .ok (.aload_n 2, 1) := by decide +kernel
theorem dL_isTraded_703 : decode cL_isTraded 703 = .ok (.iload 10, 2) := by decide +kernel
theorem dL_isTraded_705 : decode cL_isTraded 705 = .ok (.iaload, 1) := by decide +kernel
theorem dL_isTraded_706 : decode cL_isTraded 706 = .ok (.if_icmp .gt 70, 3) := by decide +kernel
theorem dL_isTraded_709 : decode cL_isTraded 709 = .ok (.iload 14, 2) := by decide +kernel
theorem dL_isTraded_711 : decode cL_isTraded 711 = .ok (.iload 13, 2) := by decide +kernel
theorem dL_isTraded_713 : decode cL_isTraded 713 = .ok (.if_icmp .gt 63, 3) := by decide +kernel
theorem dL_isTraded_716 : decode cL_isTraded 716 = .ok (.iload 14, 2) := by decide +kernel
theorem dL_isTraded_718 : decode cL_isTraded 718 = .ok (.aload_n 2, 1) := by decide +kernel
theorem dL_isTraded_719 : decode cL_isTraded 719 = .ok (.iload 10, 2) := by decide +kernel
theorem dL_isTraded_721 : decode cL_isTraded 721 = .ok (.iaload, 1) := by decide +kernel
theorem dL_isTraded_722 : decode cL_isTraded 722 = .ok (.if_icmp .eq 10, 3) := by decide +kernel
theorem dL_isTraded_725 : decode cL_isTraded 725 = .ok (.iload 14, 2) := by decide +kernel
theorem dL_isTraded_727 : decode cL_isTraded 727 = .ok (.iload 13, 2) := by decide +kernel
theorem dL_isTraded_729 : decode cL_isTraded 729 = .ok (.if_icmp .ne 47, 3) := by decide +kernel
theorem dL_isTraded_732 : decode cL_isTraded 732 = .ok (.aload_n 0, 1) := by decide +kernel
theorem dL_isTraded_733 : decode cL_isTraded 733 = .ok (.iload 12, 2) := by decide +kernel
theorem dL_isTraded_735 : decode cL_isTraded 735 = .ok (.iconst 3, 1) := by decide +kernel
theorem dL_isTraded_736 : decode cL_isTraded 736 = .ok (.invokevirtual 85, 3) := by decide +kernel
theorem dL_isTraded_739 : decode cL_isTraded 739 = .ok (.iload 13, 2) := by decide +kernel
theorem dL_isTraded_741 : decode cL_isTraded 741 = .ok (.iload 14, 2) := by decide +kernel
theorem dL_isTraded_743 : decode cL_isTraded 743 = .ok (.isub, 1) := by decide +kernel
theorem dL_isTraded_744 : decode cL_isTraded 744 = .ok (.if_icmp .ne 32, 3) := by decide +kernel
theorem dL_isTraded_747 : decode cL_isTraded 747 = .ok (.aload_n 0, 1) := by decide +kernel
theorem dL_isTraded_748 : decode cL_isTraded 748 = .ok (.iload 10, 2) := by decide +kernel
theorem dL_isTraded_750 : decode cL_isTraded 750 = .ok (.iconst 0, 1) := by decide +kernel
theorem dL_isTraded_751 : decode cL_isTraded 751 = .ok (.invokevirtual 82, 3) := by decide +kernel
theorem dL_isTraded_754 : decode cL_isTraded 754 = .ok (.iload 11, 2) := by decide +kernel
theorem dL_isTraded_756 : decode cL_isTraded 756 = .ok (.if_icmp .ne 20, 3) := by decide +kernel
theorem dL_isTraded_759 : decode cL_isTraded 759 = .ok (.aload_n 0, 1) := by decide +kernel
theorem dL_isTraded_760 : decode cL_isTraded 760 = .ok (.bipush 18, 2) := by decide +kernel
theorem dL_isTraded_762 : decode cL_isTraded 762 = .ok (.iload 10, 2) := by decide +kernel
theorem dL_isTraded_764 : decode cL_isTraded 764 = .ok (.iconst 0, 1) := by decide +kernel
theorem dL_isTraded_765 : decode cL_isTraded 765 = .ok (.iconst 0, 1) := by decide +kernel
theorem dL_isTraded_766 : decode cL_isTraded 766 = .ok (.invokestatic 149, 3) := by decide +kernel
theorem dL_isTraded_769 : decode cL_isTraded 769 = .ok (.ifCond .eq 7, 3) := by decide +kernel
theorem dL_isTraded_772 : decode cL_isTraded 772 = .ok (.iconst 1, 1) := by decide +kernel
theorem dL_isTraded_773 : decode cL_isTraded 773 = .ok (.goto 4, 3) := by decide +kernel
theorem dL_isTraded_776 : decode cL_isTraded 776 = .ok (.iconst 0, 1) := by decide +kernel
theorem dL_isTraded_777 : decode cL_isTraded 777 = .ok (.ireturn, 1) := by decide +kernel
