theorem dL_isDug_0 : decode cL_isDug 0 = .ok (.iload 4, 2) := by decide +kernel
theorem dL_isDug_2 : decode cL_isDug 2 = .ok (.aload_n 1, 1) := by decide +kernel
theorem dL_isDug_3 : decode cL_isDug 3 = .ok (.iconst 0, 1) := by decide +kernel
theorem dL_isDug_4 : decode cL_isDug 4 = .ok (.iaload, 1) := by decide +kernel
theorem dL_isDug_5 : decode cL_isDug 5 = .ok (.irem, 1) := by decide +kernel
theorem dL_isDug_6 : decode cL_isDug 6 = .ok (.istore 5, 2) := by decide +kernel
theorem dL_isDug_8 : decode cL_isDug 8 = .ok (.iload 4, 2) := by decide +kernel
theorem dL_isDug_10 : decode cL_isDug 10 = .ok (.bipush 12, 2) := by decide +kernel
theorem dL_isDug_12 : decode cL_isDug 12 = .ok (.idiv, 1) := by decide +kernel
theorem dL_isDug_13 : decode cL_isDug 13 = .ok (.istore 6, 2) := by decide +kernel
theorem dL_isDug_15 : decode cL_isDug 15 = .ok (.aload_n 0, 1) := by decide +kernel
theorem dL_isDug_16 : decode cL_isDug 16 = .ok (.iload 5, 2) := by decide +kernel
theorem dL_isDug_18 : decode cL_isDug 18 = .ok (.iconst 4, 1) := by decide +kernel
theorem dL_isDug_19 : decode cL_isDug 19 = .ok (.invokevirtual 85, 3) := by decide +kernel
theorem dL_isDug_22 : decode cL_isDug 22 = .ok (.ifCond .ne 7, 3) := by decide +kernel
theorem dL_isDug_25 : decode cL_isDug 25 = .ok (.iconst 1, 1) := by decide +kernel
theorem dL_isDug_26 : decode cL_isDug 26 = .ok (.goto 4, 3) := by decide +kernel
theorem dL_isDug_29 : decode cL_isDug 29 = .ok (.iconst 0, 1) := by decide +kernel
theorem dL_isDug_30 : decode cL_isDug 30 = .ok (.istore 7, 2) := by decide +kernel
theorem dL_isDug_32 : decode cL_isDug 32 = .ok (.iload_n 3, 1) := by decide +kernel
theorem dL_isDug_33 : decode cL_isDug 33 = .ok (.bipush 9, 2) := by decide +kernel
theorem dL_isDug_35 : decode cL_isDug 35 = .ok (.if_icmp .ge 494, 3) := by decide +kernel
theorem dL_isDug_38 : decode cL_isDug 38 = .ok (.aload_n 1, 1) := by decide +kernel
theorem dL_isDug_39 : decode cL_isDug 39 = .ok (.iconst 1, 1) := by decide +kernel
theorem dL_isDug_40 : decode cL_isDug 40 = .ok (.iaload, 1) := by decide +kernel
theorem dL_isDug_41 : decode cL_isDug 41 = .ok (.ifCond .ne 7, 3) := by decide +kernel
theorem dL_isDug_44 : decode cL_isDug 44 = .ok (.iconst (-1), 1) := by decide +kernel
theorem dL_isDug_45 : decode cL_isDug 45 = .ok (.goto 9, 3) := by decide +kernel
theorem dL_isDug_48 : decode cL_isDug 48 = .ok (.iload 6, 2) := by decide +kernel
theorem dL_isDug_50 : decode cL_isDug 50 = .ok (.aload_n 1, 1) := by decide +kernel
theorem dL_isDug_51 : decode cL_isDug 51 = .ok (.iconst 1, 1) := by decide +kernel
theorem dL_isDug_52 : decode cL_isDug 52 = .ok (.iaload, 1) := by decide +kernel
theorem dL_isDug_53 : decode cL_isDug 53 = .ok (.irem, 1) := by decide +kernel
theorem dL_isDug_54 : decode cL_isDug 54 = .ok (.istore 8, 2) := by decide +kernel
theorem dL_isDug_56 : decode cL_isDug 56 = .ok (.iload 8, 2) := by decide +kernel
theorem dL_isDug_58 : decode cL_isDug 58 = .ok (.ifCond .lt 17, 3) := by decide +kernel
theorem dL_isDug_61 : decode cL_isDug 61 = .ok (.iload 6, 2) := by decide +kernel
theorem dL_isDug_63 : decode cL_isDug 63 = .ok (.bipush 30, 2) := by decide +kernel
theorem dL_isDug_65 : decode cL_isDug 65 = .ok (.idiv, 1) := by decide +kernel
theorem dL_isDug_66 : decode cL_isDug 66 = .ok (.iconst 4, 1) := by decide +kernel
theorem dL_isDug_67 : decode cL_isDug 67 = .ok (.irem, 1) := by decide +kernel
theorem dL_isDug_68 : decode cL_isDug 68 = .ok (.ifCond .le 7, 3) := by decide +kernel
theorem dL_isDug_71 : decode cL_isDug 71 = .ok (.iconst 1, 1) := by decide +kernel
theorem dL_isDug_72 : decode cL_isDug 72 = .ok (.goto 4, 3) := by decide +kernel
theorem dL_isDug_75 : decode cL_isDug 75 = .ok (.iconst 0, 1) := by decide +kernel
theorem dL_isDug_76 : decode cL_isDug 76 = .ok (.istore 9, 2) := by decide +kernel
theorem dL_isDug_78 : decode cL_isDug 78 = .ok (.iload 9, 2) := by decide +kernel
theorem dL_isDug_80 : decode cL_isDug 80 = .ok (.ifCond .eq 27, 3) := by decide +kernel
theorem dL_isDug_83 : decode cL_isDug 83 = .ok (.aload_n 0, 1) := by decide +kernel
theorem dL_isDug_84 : decode cL_isDug 84 = .ok (.iload 8, 2) := by decide +kernel
theorem dL_isDug_86 : decode cL_isDug 86 = .ok (.iconst 1, 1) := by decide +kernel
theorem dL_isDug_87 : decode cL_isDug 87 = .ok (.invokevirtual 82, 3) := by decide +kernel
theorem dL_isDug_90 : decode cL_isDug 90 = .ok (.iload 6, 2) := by decide +kernel
theorem dL_isDug_92 : decode cL_isDug 92 = .ok (.bipush 120, 2) := by decide +kernel
theorem dL_isDug_94 : decode cL_isDug 94 = .ok (.idiv, 1) := by decide +kernel
theorem dL_isDug_95 : decode cL_isDug 95 = .ok (.aload_n 0, 1) := by decide +kernel
theorem dL_isDug_96 : decode cL_isDug 96 = .ok (.iload 8, 2) := by decide +kernel
theorem dL_isDug_98 : decode cL_isDug 98 = .ok (.iconst 2, 1) := by decide +kernel
theorem dL_isDug_99 : decode cL_isDug 99 = .ok (.invokevirtual 82, 3) := by decide +kernel
theorem dL_isDug_102 : decode cL_isDug 102 = .ok (.irem, 1) := by decide +kernel
theorem dL_isDug_103 : decode cL_isDug 103 = .ok (.iadd, 1) := by decide +kernel
theorem dL_isDug_104 : decode cL_isDug 104 = .ok (.goto 11, 3) := by decide +kernel
theorem dL_isDug_107 : decode cL_isDug 107 = .ok (.iload 6, 2) := by decide +kernel
theorem dL_isDug_109 : decode cL_isDug 109 = .ok (.bipush 30, 2) := by decide +kernel
theorem dL_isDug_111 : decode cL_isDug 111 = .ok (.idiv, 1) := by decide +kernel
theorem dL_isDug_112 : decode cL_isDug 112 = .ok (.bipush 40, 2) := by decide +kernel
theorem dL_isDug_114 : decode cL_isDug 114 = .ok (.irem, 1) := by decide +kernel
theorem dL_isDug_115 : decode cL_isDug 115 = .ok (.istore 10, 2) := by decide +kernel
theorem dL_isDug_117 : decode cL_isDug 117 = .ok (.iload 9, 2) := by decide +kernel
theorem dL_isDug_119 : decode cL_isDug 119 = .ok (.ifCond .eq 23, 3) := by decide +kernel
theorem dL_isDug_122 : decode cL_isDug 122 = .ok (.iload 6, 2) := by decide +kernel
theorem dL_isDug_124 : decode cL_isDug 124 = .ok (.bipush 50, 2) := by decide +kernel
theorem dL_isDug_126 : decode cL_isDug 126 = .ok (.idiv, 1) := by decide +kernel
theorem dL_isDug_127 : decode cL_isDug 127 = .ok (.iconst 5, 1) := by decide +kernel
theorem dL_isDug_128 : decode cL_isDug 128 = .ok (.irem, 1) := by decide +kernel
theorem dL_isDug_129 : decode cL_isDug 129 = .ok (.ifCond .le 13, 3) := by decide +kernel
theorem dL_isDug_132 : decode cL_isDug 132 = .ok (.aload_n 0, 1) := by decide +kernel
theorem dL_isDug_133 : decode cL_isDug 133 = .ok (.iload 8, 2) := by decide +kernel
theorem dL_isDug_135 : decode cL_isDug 135 = .ok (.iconst 0, 1) := by decide +kernel
theorem dL_isDug_136 : decode cL_isDug 136 = .ok (.invokevirtual 82, 3) := by decide +kernel
theorem dL_isDug_139 : decode cL_isDug 139 = .ok (.goto 5, 3) := by decide +kernel
theorem dL_isDug_142 : decode cL_isDug 142 = .ok (.iload 5, 2) := by decide +kernel
theorem dL_isDug_144 : decode cL_isDug 144 = .ok (.istore 11, 2) := by decide +kernel
theorem dL_isDug_146 : decode cL_isDug 146 = .ok (.iload 6, 2) := by decide +kernel
theorem dL_isDug_148 : decode cL_isDug 148 = .ok (.sipush 200, 3) := by decide +kernel
theorem dL_isDug_151 : decode cL_isDug 151 = .ok (.idiv, 1) := by decide +kernel
theorem dL_isDug_152 : decode cL_isDug 152 = .ok (.iconst 4, 1) := by decide +kernel
theorem dL_isDug_153 : decode cL_isDug 153 = .ok (.irem, 1) := by decide +kernel
theorem dL_isDug_154 : decode cL_isDug 154 = .ok (.istore 12, 2) := by decide +kernel
theorem dL_isDug_156 : decode cL_isDug 156 = .ok (.aload_n 0, 1) := by decide +kernel
theorem dL_isDug_157 : decode cL_isDug 157 = .ok (.iload 10, 2) := by decide +kernel
theorem dL_isDug_159 : decode cL_isDug 159 = .ok (.invokevirtual 79, 3) := by decide +kernel
theorem dL_isDug_162 : decode cL_isDug 162 = .ok (.istore 13, 2) := by decide +kernel
theorem dL_isDug_164 : decode cL_isDug 164 = .ok (.aload_n 0, 1) := by decide +kernel
theorem dL_isDug_165 : decode cL_isDug 165 = .ok (.iconst 0, 1) := by decide +kernel
theorem dL_isDug_166 : decode cL_isDug 166 = .ok (.invokevirtual 91, 3) := by decide +kernel
theorem dL_isDug_169 : decode cL_isDug 169 = .ok (.istore 14, 2) := by decide +kernel
theorem dL_isDug_171 : decode cL_isDug 171 = .ok (.aload_n 0, 1) := by decide +kernel
theorem dL_isDug_172 : decode cL_isDug 172 = .ok (.iconst 1, 1) := by decide +kernel
theorem dL_isDug_173 : decode cL_isDug 173 = .ok (.invokevirtual 91, 3) := by decide +kernel
theorem dL_isDug_176 : decode cL_isDug 176 = .ok (.istore 15, 2) := by decide +kernel
theorem dL_isDug_178 : decode cL_isDug 178 = .ok (.aload_n 0, 1) := by decide +kernel
theorem dL_isDug_179 : decode cL_isDug 179 = .ok (.iconst 2, 1) := by decide +kernel
theorem dL_isDug_180 : decode cL_isDug 180 = .ok (.invokevirtual 91, 3) := by decide +kernel
theorem dL_isDug_183 : decode cL_isDug 183 = .ok (.istore 16, 2) := by decide +kernel
theorem dL_isDug_185 : decode cL_isDug 185 = .ok (.aload_n 0, 1) := by decide +kernel
theorem dL_isDug_186 : decode cL_isDug 186 = .ok (.iload 11, 2) := by decide +kernel
theorem dL_isDug_188 : decode cL_isDug 188 = .ok (.iconst 0, 1) := by decide +kernel
theorem dL_isDug_189 : decode cL_isDug 189 = .ok (.invokevirtual 85, 3) := by decide +kernel
theorem dL_isDug_192 : decode cL_isDug 192 = .ok (.istore 17, 2) := by decide +kernel
theorem dL_isDug_194 : decode cL_isDug 194 = .ok (.aload_n 0, 1) := by decide +kernel
theorem dL_isDug_195 : decode cL_isDug 195 = .ok (.iload 11, 2) := by decide +kernel
theorem dL_isDug_197 : decode cL_isDug 197 = .ok (.bipush 7, 2) := by decide +kernel
theorem dL_isDug_199 : decode cL_isDug 199 = .ok (.invokevirtual 85, 3) := by decide +kernel
theorem dL_isDug_202 : decode cL_isDug 202 = .ok (.istore 18, 2) := by decide +kernel
theorem dL_isDug_204 : decode cL_isDug 204 = .ok (.aload_n 0, 1) := by decide +kernel
theorem dL_isDug_205 : decode cL_isDug 205 = .ok (.iload 11, 2) := by decide +kernel
theorem dL_isDug_207 : decode cL_isDug 207 = .ok (.iconst 4, 1) := by decide +kernel
theorem dL_isDug_208 : decode cL_isDug 208 = .ok (.invokevirtual 85, 3) := by decide +kernel
theorem dL_isDug_211 : decode cL_isDug 211 = .ok (.ifCond .le 87, 3) := by decide +kernel
theorem dL_isDug_214 : decode cL_isDug 214 = .ok (.aload_n 2, 1) := by decide +kernel
theorem dL_isDug_215 : decode cL_isDug 215 = .ok (.iload 11, 2) := by decide +kernel
theorem dL_isDug_217 : decode cL_isDug 217 = .ok (.iaload, 1) := by decide +kernel
theorem dL_isDug_218 : decode cL_isDug 218 = .ok (.aload_n 0, 1) := by decide +kernel
theorem dL_isDug_219 : decode cL_isDug 219 = .ok (.invokevirtual 127, 3) := by decide +kernel
theorem dL_isDug_222 : decode cL_isDug 222 = .ok (.iconst 1, 1) := by decide +kernel
theorem dL_isDug_223 : decode cL_isDug 223 = .ok (.iadd, 1) := by decide +kernel
theorem dL_isDug_224 : decode cL_isDug 224 = .ok (.if_icmp .eq 74, 3) := by decide +kernel
theorem dL_isDug_227 : decode cL_isDug 227 = .ok (.iload 13, 2) := by decide +kernel
theorem dL_isDug_229 : decode cL_isDug 229 = .ok (.ifCond .ge 11, 3) := by decide +kernel
theorem dL_isDug_232 : decode cL_isDug 232 = .ok (.iload 12, 2) := by decide +kernel
theorem dL_isDug_234 : decode cL_isDug 234 = .ok (.ifCond .ne 64, 3) := by decide +kernel
theorem dL_isDug_237 : decode cL_isDug 237 = .ok (.goto 15, 3) := by decide +kernel
theorem dL_isDug_240 : decode cL_isDug 240 = .ok (.aload_n 0, 1) := by decide +kernel
theorem dL_isDug_241 : decode cL_isDug 241 = .ok (.iload 13, 2) := by decide +kernel
theorem dL_isDug_243 : decode cL_isDug 243 = .ok (.iconst 0, 1) := by decide +kernel
theorem dL_isDug_244 : decode cL_isDug 244 = .ok (.invokevirtual 82, 3) := by decide +kernel
theorem dL_isDug_247 : decode cL_isDug 247 = .ok (.iload 11, 2) := by decide +kernel
theorem dL_isDug_249 : decode cL_isDug 249 = .ok (.if_icmp .ne 49, 3) := by decide +kernel
theorem dL_isDug_252 : decode cL_isDug 252 = .ok (.aload_n 0, 1) := by decide +kernel
theorem dL_isDug_253 : decode cL_isDug 253 = .ok (.iload 11, 2) := by decide +kernel
theorem dL_isDug_255 : decode cL_isDug 255 = .ok (.iconst 5, 1) := by decide +kernel
theorem dL_isDug_256 : decode cL_isDug 256 = .ok (.invokevirtual 85, 3) := by decide +kernel
theorem dL_isDug_259 : decode cL_isDug 259 = .ok (.iload 12, 2) := by decide +kernel
theorem dL_isDug_261 : decode cL_isDug 261 = .ok (.ifCond .ne 7, 3) := by decide +kernel
theorem dL_isDug_264 : decode cL_isDug 264 = .ok (.iconst 0, 1) := by decide +kernel
theorem dL_isDug_265 : decode cL_isDug 265 = .ok (.goto 26, 3) := by decide +kernel
theorem dL_isDug_268 : decode cL_isDug 268 = .ok (.iload 12, 2) := by decide +kernel
theorem dL_isDug_270 : decode cL_isDug 270 = .ok (.iconst 1, 1) := by decide +kernel
theorem dL_isDug_271 : decode cL_isDug 271 = .ok (.if_icmp .ne 7, 3) := by decide +kernel
theorem dL_isDug_274 : decode cL_isDug 274 = .ok (.iconst 2, 1) := by decide +kernel
theorem dL_isDug_275 : decode cL_isDug 275 = .ok (.goto 16, 3) := by decide +kernel
theorem dL_isDug_278 : decode cL_isDug 278 = .ok (.iload 12, 2) := by decide +kernel
theorem dL_isDug_280 : decode cL_isDug 280 = .ok (.iconst 2, 1) := by decide +kernel
theorem dL_isDug_281 : decode cL_isDug 281 = .ok (.if_icmp .ne 8, 3) := by decide +kernel
theorem dL_isDug_284 : decode cL_isDug 284 = .ok (.bipush 10, 2) := by decide +kernel
theorem dL_isDug_286 : decode cL_isDug 286 = .ok (.goto 5, 3) := by decide +kernel
theorem dL_isDug_289 : decode cL_isDug 289 = .ok (.bipush 40, 2) := by decide +kernel
theorem dL_isDug_291 : decode cL_isDug 291 = .ok (.if_icmp .lt 7, 3) := by decide +kernel
theorem dL_isDug_294 : decode cL_isDug 294 = .ok (.iconst 1, 1) := by decide +kernel
theorem dL_isDug_295 : decode cL_isDug 295 = .ok (.goto 4, 3) := by decide +kernel
theorem dL_isDug_298 : decode cL_isDug 298 = .ok (.iconst 0, 1) := by decide +kernel
theorem dL_isDug_299 : decode cL_isDug 299 = .ok (.istore 19, 2) := by decide +kernel
theorem dL_isDug_301 : decode cL_isDug 301 = .ok (.aload_n 0, 1) := by decide +kernel
theorem dL_isDug_302 : decode cL_isDug 302 = .ok (.bipush 7, 2) := by decide +kernel
theorem dL_isDug_304 : decode cL_isDug 304 = .ok (.iload 11, 2) := by decide +kernel
theorem dL_isDug_306 : decode cL_isDug 306 = .ok (.iload 10, 2) := by decide +kernel
theorem dL_isDug_308 : decode cL_isDug 308 = .ok (.iload 12, 2) := by decide +kernel
theorem dL_isDug_310 : decode cL_isDug 310 = .ok (.iconst 0, 1) := by decide +kernel
theorem dL_isDug_311 : decode cL_isDug 311 = .ok (.invokestatic 123, 3) := by decide +kernel
theorem dL_isDug_314 : decode cL_isDug 314 = .ok (.istore 20, 2) := by decide +kernel
theorem dL_isDug_316 : decode cL_isDug 316 = .ok (.iload 19, 2) := by decide +kernel
theorem dL_isDug_318 : decode cL_isDug 318 = .ok (.ifCond .ne 16, 3) := by decide +kernel
theorem dL_isDug_321 : decode cL_isDug 321 = .ok (.iload 20, 2) := by decide +kernel
theorem dL_isDug_323 : decode cL_isDug 323 = .ok (.ldc 114, 2) := by decide +kernel
theorem dL_isDug_325 : decode cL_isDug 325 = .ok (.if_icmp .ne 7, 3) := by decide +kernel
theorem dL_isDug_328 : decode cL_isDug 328 = .ok (.iconst 1, 1) := by decide +kernel
theorem dL_isDug_329 : decode cL_isDug 329 = .ok (.goto 4, 3) := by decide +kernel
theorem dL_isDug_332 : decode cL_isDug 332 = .ok (.iconst 0, 1) := by decide +kernel
theorem dL_isDug_333 : decode cL_isDug 333 = .ok (.ireturn, 1) := by decide +kernel
theorem dL_isDug_334 : decode cL_isDug 334 = .ok (.aload_n 2, 1) := by decide +kernel
theorem dL_isDug_335 : decode cL_isDug 335 = .ok (.iload 11, 2) := by decide +kernel
theorem dL_isDug_337 : decode cL_isDug 337 = .ok (.aload_n 0, 1) := by decide +kernel
theorem dL_isDug_338 : decode cL_isDug 338 = .ok (.invokevirtual 127, 3) := by decide +kernel
theorem dL_isDug_341 : decode cL_isDug 341 = .ok (.iconst 1, 1) := by decide +kernel
theorem dL_isDug_342 : decode cL_isDug 342 = .ok (.iadd, 1) := by decide +kernel
theorem dL_isDug_343 : decode cL_isDug 343 = .ok (.iastore, 1) := by decide +kernel
theorem dL_isDug_344 : decode cL_isDug 344 = .ok (.aload_n 1, 1) := by decide +kernel
theorem dL_isDug_345 : decode cL_isDug 345 = .ok (.iconst 4, 1) := by decide +kernel
theorem dL_isDug_346 : decode cL_isDug 346 = .ok (.iconst 1, 1) := by decide +kernel
theorem dL_isDug_347 : decode cL_isDug 347 = .ok (.iastore, 1) := by decide +kernel
theorem dL_isDug_348 : decode cL_isDug 348 = .ok (.iload 12, 2) := by decide +kernel
theorem dL_isDug_350 : decode cL_isDug 350 = .ok (.ifCond .ne 8, 3) := by decide +kernel
theorem dL_isDug_353 : decode cL_isDug 353 = .ok (.bipush 18, 2) := by decide +kernel
theorem dL_isDug_355 : decode cL_isDug 355 = .ok (.goto 29, 3) := by decide +kernel
theorem dL_isDug_358 : decode cL_isDug 358 = .ok (.iload 12, 2) := by decide +kernel
theorem dL_isDug_360 : decode cL_isDug 360 = .ok (.iconst 1, 1) := by decide +kernel
theorem dL_isDug_361 : decode cL_isDug 361 = .ok (.if_icmp .ne 8, 3) := by decide +kernel
theorem dL_isDug_364 : decode cL_isDug 364 = .ok (.bipush 70, 2) := by decide +kernel
theorem dL_isDug_366 : decode cL_isDug 366 = .ok (.goto 18, 3) := by decide +kernel
theorem dL_isDug_369 : decode cL_isDug 369 = .ok (.iload 12, 2) := by decide +kernel
theorem dL_isDug_371 : decode cL_isDug 371 = .ok (.iconst 2, 1) := by decide +kernel
theorem dL_isDug_372 : decode cL_isDug 372 = .ok (.if_icmp .ne 9, 3) := by decide +kernel
theorem dL_isDug_375 : decode cL_isDug 375 = .ok (.sipush 320, 3) := by decide +kernel
theorem dL_isDug_378 : decode cL_isDug 378 = .ok (.goto 6, 3) := by decide +kernel
theorem dL_isDug_381 : decode cL_isDug 381 = .ok (.sipush 1000, 3) := by decide +kernel
theorem dL_isDug_384 : decode cL_isDug 384 = .ok (.istore 21, 2) := by decide +kernel
theorem dL_isDug_386 : decode cL_isDug 386 = .ok (.aload_n 0, 1) := by decide +kernel
theorem dL_isDug_387 : decode cL_isDug 387 = .ok (.iload 11, 2) := by decide +kernel
theorem dL_isDug_389 : decode cL_isDug 389 = .ok (.iconst 0, 1) := by decide +kernel
theorem dL_isDug_390 : decode cL_isDug 390 = .ok (.invokevirtual 85, 3) := by decide +kernel
theorem dL_isDug_393 : decode cL_isDug 393 = .ok (.iload 17, 2) := by decide +kernel
theorem dL_isDug_395 : decode cL_isDug 395 = .ok (.isub, 1) := by decide +kernel
theorem dL_isDug_396 : decode cL_isDug 396 = .ok (.istore 22, 2) := by decide +kernel
theorem dL_isDug_398 : decode cL_isDug 398 = .ok (.iload 20, 2) := by decide +kernel
theorem dL_isDug_400 : decode cL_isDug 400 = .ok (.ifCond .lt 127, 3) := by decide +kernel
theorem dL_isDug_403 : decode cL_isDug 403 = .ok (.iload 20, 2) := by decide +kernel
theorem dL_isDug_405 : decode cL_isDug 405 = .ok (.iload 21, 2) := by decide +kernel
theorem dL_isDug_407 : decode cL_isDug 407 = .ok (.if_icmp .gt 120, 3) := by decide +kernel
theorem dL_isDug_410 : decode cL_isDug 410 = .ok (.aload_n 0, 1) := by decide +kernel
theorem dL_isDug_411 : decode cL_isDug 411 = .ok (.iconst 2, 1) := by decide +kernel
theorem dL_isDug_412 : decode cL_isDug 412 = .ok (.invokevirtual 91, 3) := by decide +kernel
theorem dL_isDug_415 : decode cL_isDug 415 = .ok (.iload 16, 2) := by decide +kernel
theorem dL_isDug_417 : decode cL_isDug 417 = .ok (.iload 20, 2) := by decide +kernel
theorem dL_isDug_419 : decode cL_isDug 419 = .ok (.iadd, 1) := by decide +kernel
theorem dL_isDug_420 : decode cL_isDug 420 = .ok (.if_icmp .ne 107, 3) := by decide +kernel
theorem dL_isDug_423 : decode cL_isDug 423 = .ok (.aload_n 0, 1) := by decide +kernel
theorem dL_isDug_424 : decode cL_isDug 424 = .ok (.iconst 0, 1) := by decide +kernel
theorem dL_isDug_425 : decode cL_isDug 425 = .ok (.invokevirtual 91, 3) := by decide +kernel
theorem dL_isDug_428 : decode cL_isDug 428 = .ok (.aload_n 0, 1) := by decide +kernel
theorem dL_isDug_429 : decode cL_isDug 429 = .ok (.iconst 1, 1) := by decide +kernel
theorem dL_isDug_430 : decode cL_isDug 430 = .ok (.invokevirtual 91, 3) := by decide +kernel
theorem dL_isDug_433 : decode cL_isDug 433 = .ok (.iadd, 1) := by decide +kernel
theorem dL_isDug_434 : decode cL_isDug 434 = .ok (.iload 14, 2) := by decide +kernel
theorem dL_isDug_436 : decode cL_isDug 436 = .ok (.iload 15, 2) := by decide +kernel
theorem dL_isDug_438 : decode cL_isDug 438 = .ok (.iadd, 1) := by decide +kernel
theorem dL_isDug_439 : decode cL_isDug 439 = .ok (.iload 20, 2) := by decide +kernel
theorem dL_isDug_441 : decode cL_isDug 441 = .ok (.isub, 1) := by decide +kernel
theorem dL_isDug_442 : decode cL_isDug 442 = .ok (.if_icmp .ne 85, 3) := by decide +kernel
theorem dL_isDug_445 : decode cL_isDug 445 = .ok (.iload 10, 2) := by decide +kernel
theorem dL_isDug_447 : decode cL_isDug 447 = .ok (.bipush 39, 2) := by decide +kernel
theorem dL_isDug_449 : decode cL_isDug 449 = .ok (.if_icmp .eq 13, 3) := by decide +kernel
theorem dL_isDug_452 : decode cL_isDug 452 = .ok (.aload_n 0, 1) := by decide +kernel
theorem dL_isDug_453 : decode cL_isDug 453 = .ok (.iconst 1, 1) := by decide +kernel
theorem dL_isDug_454 : decode cL_isDug 454 = .ok (.invokevirtual 91, 3) := by decide +kernel
theorem dL_isDug_457 : decode cL_isDug 457 = .ok (.iload 15, 2) := by decide +kernel
theorem dL_isDug_459 : decode cL_isDug 459 = .ok (.if_icmp .ne 68, 3) := by decide +kernel
theorem dL_isDug_462 : decode cL_isDug 462 = .ok (.iload 22, 2) := by decide +kernel
theorem dL_isDug_464 : decode cL_isDug 464 = .ok (.ifCond .lt 63, 3) := by decide +kernel
theorem dL_isDug_467 : decode cL_isDug 467 = .ok (.bipush 100, 2) := by decide +kernel
theorem dL_isDug_469 : decode cL_isDug 469 = .ok (.iload 22, 2) := by decide +kernel
theorem dL_isDug_471 : decode cL_isDug 471 = .ok (.imul, 1) := by decide +kernel
theorem dL_isDug_472 : decode cL_isDug 472 = .ok (.iload 20, 2) := by decide +kernel
theorem dL_isDug_474 : decode cL_isDug 474 = .ok (.bipush 100, 2) := by decide +kernel
theorem dL_isDug_476 : decode cL_isDug 476 = .ok (.iload 18, 2) := by decide +kernel
theorem dL_isDug_478 : decode cL_isDug 478 = .ok (.isub, 1) := by decide +kernel
theorem dL_isDug_479 : decode cL_isDug 479 = .ok (.imul, 1) := by decide +kernel
theorem dL_isDug_480 : decode cL_isDug 480 = .ok (.if_icmp .lt 47, 3) := by decide +kernel
theorem dL_isDug_483 : decode cL_isDug 483 = .ok (.iload 22, 2) := by decide +kernel
theorem dL_isDug_485 : decode cL_isDug 485 = .ok (.iload 20, 2) := by decide +kernel
theorem dL_isDug_487 : decode cL_isDug 487 = .ok (.if_icmp .gt 40, 3) := by decide +kernel
theorem dL_isDug_490 : decode cL_isDug 490 = .ok (.iload 13, 2) := by decide +kernel
theorem dL_isDug_492 : decode cL_isDug 492 = .ok (.ifCond .lt 17, 3) := by decide +kernel
theorem dL_isDug_495 : decode cL_isDug 495 = .ok (.aload_n 0, 1) := by decide +kernel
theorem dL_isDug_496 : decode cL_isDug 496 = .ok (.iload 13, 2) := by decide +kernel
theorem dL_isDug_498 : decode cL_isDug 498 = .ok (.iconst 4, 1) := by decide +kernel
theorem dL_isDug_499 : decode cL_isDug 499 = .ok (.invokevirtual 82, 3) := by decide +kernel
theorem dL_isDug_502 : decode cL_isDug 502 = .ok (.aload_n 0, 1) := by decide +kernel
theorem dL_isDug_503 : decode cL_isDug 503 = .ok (.invokevirtual 127, 3) := by decide +kernel
theorem dL_isDug_506 : decode cL_isDug 506 = .ok (.if_icmp .ne 21, 3) := by decide +kernel
theorem dL_isDug_509 : decode cL_isDug 509 = .ok (.aload_n 0, 1) := by decide +kernel
theorem dL_isDug_510 : decode cL_isDug 510 = .ok (.bipush 7, 2) := by decide +kernel
theorem dL_isDug_512 : decode cL_isDug 512 = .ok (.iload 11, 2) := by decide +kernel
theorem dL_isDug_514 : decode cL_isDug 514 = .ok (.iload 10, 2) := by decide +kernel
theorem dL_isDug_516 : decode cL_isDug 516 = .ok (.iconst 0, 1) := by decide +kernel
theorem dL_isDug_517 : decode cL_isDug 517 = .ok (.invokestatic 149, 3) := by decide +kernel
theorem dL_isDug_520 : decode cL_isDug 520 = .ok (.ifCond .eq 7, 3) := by decide +kernel
theorem dL_isDug_523 : decode cL_isDug 523 = .ok (.iconst 1, 1) := by decide +kernel
theorem dL_isDug_524 : decode cL_isDug 524 = .ok (.goto 4, 3) := by decide +kernel
theorem dL_isDug_527 : decode cL_isDug 527 = .ok (.iconst 0, 1) := by decide +kernel
theorem dL_isDug_528 : decode cL_isDug 528 = .ok (.ireturn, 1) := by decide +kernel
theorem dL_isDug_529 : decode cL_isDug 529 = .ok (.aload_n 0, 1) := by decide +kernel
theorem dL_isDug_530 : decode cL_isDug 530 = .ok (.iload 5, 2) := by decide +kernel
theorem dL_isDug_532 : decode cL_isDug 532 = .ok (.iconst 0, 1) := by decide +kernel
theorem dL_isDug_533 : decode cL_isDug 533 = .ok (.invokevirtual 85, 3) := by decide +kernel
theorem dL_isDug_536 : decode cL_isDug 536 = .ok (.istore 8, 2) := by decide +kernel
theorem dL_isDug_538 : decode cL_isDug 538 = .ok (.aload_n 0, 1) := by decide +kernel
theorem dL_isDug_539 : decode cL_isDug 539 = .ok (.iload 5, 2) := by decide +kernel
theorem dL_isDug_541 : decode cL_isDug 541 = .ok (.iconst 1, 1) := by decide +kernel
theorem dL_isDug_542 : decode cL_isDug 542 = .ok (.invokevirtual 85, 3) := by decide +kernel
theorem dL_isDug_545 : decode cL_isDug 545 = .ok (.istore 9, 2) := by decide +kernel
theorem dL_isDug_547 : decode cL_isDug 547 = .ok (.iload_n 3, 1) := by decide +kernel
theorem dL_isDug_548 : decode cL_isDug 548 = .ok (.bipush 11, 2) := by decide +kernel
theorem dL_isDug_550 : decode cL_isDug 550 = .ok (.if_icmp .ge 141, 3) := by decide +kernel
theorem dL_isDug_553 : decode cL_isDug 553 = .ok (.iload 6, 2) := by decide +kernel
theorem dL_isDug_555 : decode cL_isDug 555 = .ok (.bipush 40, 2) := by decide +kernel
theorem dL_isDug_557 : decode cL_isDug 557 = .ok (.irem, 1) := by decide +kernel
theorem dL_isDug_558 : decode cL_isDug 558 = .ok (.istore 10, 2) := by decide +kernel
theorem dL_isDug_560 : decode cL_isDug 560 = .ok (.iconst 1, 1) := by decide +kernel
theorem dL_isDug_561 : decode cL_isDug 561 = .ok (.iload 6, 2) := by decide +kernel
theorem dL_isDug_563 : decode cL_isDug 563 = .ok (.bipush 40, 2) := by decide +kernel
theorem dL_isDug_565 : decode cL_isDug 565 = .ok (.idiv, 1) := by decide +kernel
theorem dL_isDug_566 : decode cL_isDug 566 = .ok (.iload 6, 2) := by decide +kernel
theorem dL_isDug_568 : decode cL_isDug 568 = .ok (.iconst 5, 1) := by decide +kernel
theorem dL_isDug_569 : decode cL_isDug 569 = .ok (.irem, 1) := by decide +kernel
theorem dL_isDug_570 : decode cL_isDug 570 = .ok (.ifCond .ne 9, 3) := by decide +kernel
theorem dL_isDug_573 : decode cL_isDug 573 = .ok (.sipush 10000, 3) := by decide +kernel
theorem dL_isDug_576 : decode cL_isDug 576 = .ok (.goto 5, 3) := by decide +kernel
theorem dL_isDug_579 : decode cL_isDug 579 = .ok (.bipush 60, 2) := by decide +kernel
theorem dL_isDug_581 : decode cL_isDug 581 = .ok (.irem, 1) := by decide +kernel
theorem dL_isDug_582 : decode cL_isDug 582 = .ok (.iadd, 1) := by decide +kernel
theorem dL_isDug_583 : decode cL_isDug 583 = .ok (.istore 11, 2) := by decide +kernel
theorem dL_isDug_585 : decode cL_isDug 585 = .ok (.aload_n 0, 1) := by decide +kernel
theorem dL_isDug_586 : decode cL_isDug 586 = .ok (.iconst 0, 1) := by decide +kernel
theorem dL_isDug_587 : decode cL_isDug 587 = .ok (.invokevirtual 91, 3) := by decide +kernel
theorem dL_isDug_590 : decode cL_isDug 590 = .ok (.istore 12, 2) := by decide +kernel
theorem dL_isDug_592 : decode cL_isDug 592 = .ok (.aload_n 0, 1) := by decide +kernel
theorem dL_isDug_593 : decode cL_isDug 593 = .ok (.bipush 9, 2) := by decide +kernel
theorem dL_isDug_595 : decode cL_isDug 595 = .ok (.iload 5, 2) := by decide +kernel
theorem dL_isDug_597 : decode cL_isDug 597 = .ok (.iload 10, 2) := by decide +kernel
theorem dL_isDug_599 : decode cL_isDug 599 = .ok (.iload 11, 2) := by decide +kernel
theorem dL_isDug_601 : decode cL_isDug 601 = .ok (.iconst 0, 1) := by decide +kernel
theorem dL_isDug_602 : decode cL_isDug 602 = .ok (.invokestatic 123, 3) := by decide +kernel
theorem dL_isDug_605 : decode cL_isDug 605 = .ok (.istore 13, 2) := by decide +kernel
theorem dL_isDug_607 : decode cL_isDug 607 = .ok (.iload 7, 2) := by decide +kernel
theorem dL_isDug_609 : decode cL_isDug 609 = .ok (.ifCond .ne 10, 3) := by decide +kernel
theorem dL_isDug_612 : decode cL_isDug 612 = .ok (.iload 8, 2) := by decide +kernel
theorem dL_isDug_614 : decode cL_isDug 614 = .ok (.iload 11, 2) := by decide +kernel
theorem dL_isDug_616 : decode cL_isDug 616 = .ok (.if_icmp .ge 16, 3) := by decide +kernel
theorem dL_isDug_619 : decode cL_isDug 619 = .ok (.iload 13, 2) := by decide +kernel
theorem dL_isDug_621 : decode cL_isDug 621 = .ok (.ldc 114, 2) := by decide +kernel
theorem dL_isDug_623 : decode cL_isDug 623 = .ok (.if_icmp .ne 7, 3) := by decide +kernel
theorem dL_isDug_626 : decode cL_isDug 626 = .ok (.iconst 1, 1) := by decide +kernel
theorem dL_isDug_627 : decode cL_isDug 627 = .ok (.goto 4, 3) := by decide +kernel
theorem dL_isDug_630 : decode cL_isDug 630 = .ok (.iconst 0, 1) := by decide +kernel
theorem dL_isDug_631 : decode cL_isDug 631 = .ok (.ireturn, 1) := by decide +kernel
theorem dL_isDug_632 : decode cL_isDug 632 = .ok (.aload_n 1, 1) := by decide +kernel
theorem dL_isDug_633 : decode cL_isDug 633 = .ok (.iconst 4, 1) := by decide +kernel
theorem dL_isDug_634 : decode cL_isDug 634 = .ok (.iconst 1, 1) := by decide +kernel
theorem dL_isDug_635 : decode cL_isDug 635 = .ok (.iastore, 1) := by decide +kernel
theorem dL_isDug_636 : decode cL_isDug 636 = .ok (.iload 13, 2) := by decide +kernel
theorem dL_isDug_638 : decode cL_isDug 638 = .ok (.iload 11, 2) := by decide +kernel
theorem dL_isDug_640 : decode cL_isDug 640 = .ok (.if_icmp .lt 49, 3) := by decide +kernel
theorem dL_isDug_643 : decode cL_isDug 643 = .ok (.iload 13, 2) := by decide +kernel
theorem dL_isDug_645 : decode cL_isDug 645 = .ok (.bipush 100, 2) := by decide +kernel
theorem dL_isDug_647 : decode cL_isDug 647 = .ok (.idiv, 1) := by decide +kernel
theorem dL_isDug_648 : decode cL_isDug 648 = .ok (.aload_n 0, 1) := by decide +kernel
theorem dL_isDug_649 : decode cL_isDug 649 = .ok (.iload 10, 2) := by decide +kernel
theorem dL_isDug_651 : decode cL_isDug 651 = .ok (.invokevirtual 39, 3) := by decide +kernel
theorem dL_isDug_654 : decode cL_isDug 654 = .ok (.if_icmp .ne 35, 3) := by decide +kernel
theorem dL_isDug_657 : decode cL_isDug 657 = .ok (.aload_n 0, 1) := by decide +kernel
theorem dL_isDug_658 : decode cL_isDug 658 = .ok (.iconst 0, 1) := by decide +kernel
theorem dL_isDug_659 : decode cL_isDug 659 = .ok (.invokevirtual 91, 3) := by decide +kernel
theorem dL_isDug_662 : decode cL_isDug 662 = .ok (.iload 12, 2) := by decide +kernel
theorem dL_isDug_664 : decode cL_isDug 664 = .ok (.iload 11, 2) := by decide +kernel
theorem dL_isDug_666 : decode cL_isDug 666 = .ok (.iadd, 1) := by decide +kernel
theorem dL_isDug_667 : decode cL_isDug 667 = .ok (.if_icmp .ne 22, 3) := by decide +kernel
theorem dL_isDug_670 : decode cL_isDug 670 = .ok (.aload_n 0, 1) := by decide +kernel
theorem dL_isDug_671 : decode cL_isDug 671 = .ok (.iload 5, 2) := by decide +kernel
theorem dL_isDug_673 : decode cL_isDug 673 = .ok (.iconst 0, 1) := by decide +kernel
theorem dL_isDug_674 : decode cL_isDug 674 = .ok (.invokevirtual 85, 3) := by decide +kernel
theorem dL_isDug_677 : decode cL_isDug 677 = .ok (.iload 8, 2) := by decide +kernel
theorem dL_isDug_679 : decode cL_isDug 679 = .ok (.iload 11, 2) := by decide +kernel
theorem dL_isDug_681 : decode cL_isDug 681 = .ok (.isub, 1) := by decide +kernel
theorem dL_isDug_682 : decode cL_isDug 682 = .ok (.if_icmp .ne 7, 3) := by decide +kernel
theorem dL_isDug_685 : decode cL_isDug 685 = .ok (.iconst 1, 1) := by decide +kernel
theorem dL_isDug_686 : decode cL_isDug 686 = .ok (.goto 4, 3) := by decide +kernel
theorem dL_isDug_689 : decode cL_isDug 689 = .ok (.iconst 0, 1) := by decide +kernel
theorem dL_isDug_690 : decode cL_isDug 690 = .ok (.ireturn, 1) := by decide +kernel
theorem dL_isDug_691 : decode cL_isDug 691 = .ok (.iload_n 3, 1) := by decide +kernel
theorem dL_isDug_692 : decode cL_isDug 692 = .ok (.bipush 13, 2) := by decide +kernel
theorem dL_isDug_694 : decode cL_isDug 694 = .ok (.if_icmp .ge 71, 3) := by decide +kernel
theorem dL_isDug_697 : decode cL_isDug 697 = .ok (.iconst 1, 1) := by decide +kernel
theorem dL_isDug_698 : decode cL_isDug 698 = .ok (.iload 6, 2) := by decide +kernel
theorem dL_isDug_700 : decode cL_isDug 700 = .ok (.iload 6, 2) := by decide +kernel
theorem dL_isDug_702 : decode cL_isDug 702 = .ok (.iconst 4, 1) := by decide +kernel
theorem dL_isDug_703 : decode cL_isDug 703 = .ok (.irem, 1) := by decide +kernel
theorem dL_isDug_704 : decode cL_isDug 704 = .ok (.ifCond .ne 9, 3) := by decide +kernel
theorem dL_isDug_707 : decode cL_isDug 707 = .ok (.sipush 10000, 3) := by decide +kernel
theorem dL_isDug_710 : decode cL_isDug 710 = .ok (.goto 5, 3) := by decide +kernel
theorem dL_isDug_713 : decode cL_isDug 713 = .ok (.bipush 12, 2) := by decide +kernel
theorem dL_isDug_715 : decode cL_isDug 715 = .ok (.irem, 1) := by decide +kernel
theorem dL_isDug_716 : decode cL_isDug 716 = .ok (.iadd, 1) := by decide +kernel
theorem dL_isDug_717 : decode cL_isDug 717 = .ok (.istore 10, 2) := by decide +kernel
theorem dL_isDug_719 : decode cL_isDug 719 = .ok (.aload_n 0, 1) := by decide +kernel
theorem dL_isDug_720 : decode cL_isDug 720 = .ok (.bipush 10, 2) := by decide +kernel
theorem dL_isDug_722 : decode cL_isDug 722 = .ok (.iload 5, 2) := by decide +kernel
theorem dL_isDug_724 : decode cL_isDug 724 = .ok (.iload 10, 2) := by decide +kernel
theorem dL_isDug_726 : decode cL_isDug 726 = .ok (.iconst 0, 1) := by decide +kernel
theorem dL_isDug_727 : decode cL_isDug 727 = .ok (.iconst 0, 1) := by decide +kernel
theorem dL_isDug_728 : decode cL_isDug 728 = .ok (.invokestatic 123, 3) := by decide +kernel
theorem dL_isDug_731 : decode cL_isDug 731 = .ok (.iload 7, 2) := by decide +kernel
theorem dL_isDug_733 : decode cL_isDug 733 = .ok (.ifCond .ne 13, 3) := by decide +kernel
theorem dL_isDug_736 : decode cL_isDug 736 = .ok (.iload 9, 2) := by decide +kernel
theorem dL_isDug_738 : decode cL_isDug 738 = .ok (.iload 10, 2) := by decide +kernel
theorem dL_isDug_740 : decode cL_isDug 740 = .ok (.iadd, 1) := by decide +kernel
theorem dL_isDug_741 : decode cL_isDug 741 = .ok (.ldc 153, 2) := by decide +kernel
theorem dL_isDug_743 : decode cL_isDug 743 = .ok (.if_icmp .le 8, 3) := by decide +kernel
theorem dL_isDug_746 : decode cL_isDug 746 = .ok (.ldc 114, 2) := by decide +kernel
theorem dL_isDug_748 : decode cL_isDug 748 = .ok (.goto 8, 3) := by decide +kernel
theorem dL_isDug_751 : decode cL_isDug 751 = .ok (.iload 9, 2) := by decide +kernel
theorem dL_isDug_753 : decode cL_isDug 753 = .ok (.iload 10, 2) := by decide +kernel
theorem dL_isDug_755 : decode cL_isDug 755 = .ok (.iadd, 1) := by decide +kernel
theorem dL_isDug_756 : decode cL_isDug 756 = .ok (.if_icmp .ne 7, 3) := by decide +kernel
theorem dL_isDug_759 : decode cL_isDug 759 = .ok (.iconst 1, 1) := by decide +kernel
theorem dL_isDug_760 : decode cL_isDug 760 = .ok (.goto 4, 3) := by decide +kernel
theorem dL_isDug_763 : decode cL_isDug 763 = .ok (.iconst 0, 1) := by decide +kernel
theorem dL_isDug_764 : decode cL_isDug 764 = .ok (.ireturn, 1) := by decide +kernel
theorem dL_isDug_765 : decode cL_isDug 765 = .ok (.iload 6, 2) := by decide +kernel
theorem dL_isDug_767 : decode cL_isDug 767 = .ok (.iconst 4, 1) := by decide +kernel
theorem dL_isDug_768 : decode cL_isDug 768 = .ok (.irem, 1) := by decide +kernel
theorem dL_isDug_769 : decode cL_isDug 769 = .ok (.ifCond .ne 19, 3) := by decide +kernel
theorem dL_isDug_772 : decode cL_isDug 772 = .ok (.iload 8, 2) := by decide +kernel
theorem dL_isDug_774 : decode cL_isDug 774 = .ok (.iload 9, 2) := by decide +kernel
theorem dL_isDug_776 : decode cL_isDug 776 = .ok (.iadd, 1) := by decide +kernel
theorem dL_isDug_777 : decode cL_isDug 777 = .ok (.ifCond .le 11, 3) := by decide +kernel
theorem dL_isDug_780 : decode cL_isDug 780 = .ok (.iload 8, 2) := by decide +kernel
theorem dL_isDug_782 : decode cL_isDug 782 = .ok (.iload 9, 2) := by decide +kernel
theorem dL_isDug_784 : decode cL_isDug 784 = .ok (.iadd, 1) := by decide +kernel
theorem dL_isDug_785 : decode cL_isDug 785 = .ok (.goto 13, 3) := by decide +kernel
theorem dL_isDug_788 : decode cL_isDug 788 = .ok (.iconst 1, 1) := by decide +kernel
theorem dL_isDug_789 : decode cL_isDug 789 = .ok (.iload 6, 2) := by decide +kernel
theorem dL_isDug_791 : decode cL_isDug 791 = .ok (.iconst 4, 1) := by decide +kernel
theorem dL_isDug_792 : decode cL_isDug 792 = .ok (.idiv, 1) := by decide +kernel
theorem dL_isDug_793 : decode cL_isDug 793 = .ok (.sipush 300, 3) := by decide +kernel
theorem dL_isDug_796 : decode cL_isDug 796 = .ok (.irem, 1) := by decide +kernel
theorem dL_isDug_797 : decode cL_isDug 797 = .ok (.iadd, 1) := by decide +kernel
theorem dL_isDug_798 : decode cL_isDug 798 = .ok (.istore 10, 2) := by decide +kernel
theorem dL_isDug_800 : decode cL_isDug 800 = .ok (.aload_n 0, 1) := by decide +kernel
theorem dL_isDug_801 : decode cL_isDug 801 = .ok (.iload 5, 2) := by decide +kernel
theorem dL_isDug_803 : decode cL_isDug 803 = .ok (.iconst 3, 1) := by decide +kernel
theorem dL_isDug_804 : decode cL_isDug 804 = .ok (.invokevirtual 85, 3) := by decide +kernel
theorem dL_isDug_807 : decode cL_isDug 807 = .ok (.istore 11, 2) := by decide +kernel
theorem dL_isDug_809 : decode cL_isDug 809 = .ok (.aload_n 0, 1) := by decide +kernel
theorem dL_isDug_810 : decode cL_isDug 810 = .ok (.iload 5, 2) := by decide +kernel
theorem dL_isDug_812 : decode cL_isDug 812 = .ok (.bipush 6, 2) := by decide +kernel
theorem dL_isDug_814 : decode cL_isDug 814 = .ok (.invokevirtual 85, 3) := by decide +kernel
theorem dL_isDug_817 : decode cL_isDug 817 = .ok (.istore 12, 2) := by decide +kernel
theorem dL_isDug_819 : decode cL_isDug 819 = .ok (.aload_n 0, 1) := by decide +kernel
theorem dL_isDug_820 : decode cL_isDug 820 = .ok (.iconst 3, 1) := by decide +kernel
theorem dL_isDug_821 : decode cL_isDug 821 = .ok (.invokevirtual 91, 3) := by decide +kernel
theorem dL_isDug_824 : decode cL_isDug 824 = .ok (.istore 13, 2) := by decide +kernel
theorem dL_isDug_826 : decode cL_isDug 826 = .ok (.aload_n 0, 1) := by decide +kernel
theorem dL_isDug_827 : decode cL_isDug 827 = .ok (.bipush 11, 2) := by decide +kernel
theorem dL_isDug_829 : decode cL_isDug 829 = .ok (.iload 5, 2) := by decide +kernel
theorem dL_isDug_831 : decode cL_isDug 831 = .ok (.iload 10, 2) := by decide +kernel
theorem dL_isDug_833 : decode cL_isDug 833 = .ok (.iconst 0, 1) := by decide +kernel
theorem dL_isDug_834 : decode cL_isDug 834 = .ok (.iconst 0, 1) := by decide +kernel
theorem dL_isDug_835 : decode cL_isDug 835 = .ok (.invokestatic 123, 3) := by decide +kernel
theorem dL_isDug_838 : decode cL_isDug 838 = .ok (.istore 14, 2) := by decide +kernel
theorem dL_isDug_840 : decode cL_isDug 840 = .ok (.iload 7, 2) := by decide +kernel
theorem dL_isDug_842 : decode cL_isDug 842 = .ok (.ifCond .ne 13, 3) := by decide +kernel
theorem dL_isDug_845 : decode cL_isDug 845 = .ok (.iload 8, 2) := by decide +kernel
theorem dL_isDug_847 : decode cL_isDug 847 = .ok (.iload 9, 2) := by decide +kernel
theorem dL_isDug_849 : decode cL_isDug 849 = .ok (.iadd, 1) := by decide +kernel
theorem dL_isDug_850 : decode cL_isDug 850 = .ok (.iload 10, 2) := by decide +kernel
theorem dL_isDug_852 : decode cL_isDug 852 = .ok (.if_icmp .ge 16, 3) := by decide +kernel
theorem dL_isDug_855 : decode cL_isDug 855 = .ok (.iload 14, 2) := by decide +kernel
theorem dL_isDug_857 : decode cL_isDug 857 = .ok (.ldc 114, 2) := by decide +kernel
theorem dL_isDug_859 : decode cL_isDug 859 = .ok (.if_icmp .ne 7, 3) := by decide +kernel
theorem dL_isDug_862 : decode cL_isDug 862 = .ok (.iconst 1, 1) := by decide +kernel
theorem dL_isDug_863 : decode cL_isDug 863 = .ok (.goto 4, 3) := by decide +kernel
theorem dL_isDug_866 : decode cL_isDug 866 = .ok (.iconst 0, 1) := by decide +kernel
theorem dL_isDug_867 : decode cL_isDug 867 = .ok (.ireturn, 1) := by decide +kernel
theorem dL_isDug_868 : decode cL_isDug 868 = .ok (.bipush 20, 2) := by decide +kernel
theorem dL_isDug_870 : decode cL_isDug 870 = .ok (.iload 9, 2) := by decide +kernel
theorem dL_isDug_872 : decode cL_isDug 872 = .ok (.imul, 1) := by decide +kernel
theorem dL_isDug_873 : decode cL_isDug 873 = .ok (.iload 8, 2) := by decide +kernel
theorem dL_isDug_875 : decode cL_isDug 875 = .ok (.iload 9, 2) := by decide +kernel
theorem dL_isDug_877 : decode cL_isDug 877 = .ok (.iadd, 1) := by decide +kernel
theorem dL_isDug_878 : decode cL_isDug 878 = .ok (.if_icmp .le 64, 3) := by decide +kernel
theorem dL_isDug_881 : decode cL_isDug 881 = .ok (.iload 14, 2) := by decide +kernel
theorem dL_isDug_883 : decode cL_isDug 883 = .ok (.iconst (-1), 1) := by decide +kernel
theorem dL_isDug_884 : decode cL_isDug 884 = .ok (.if_icmp .ne 56, 3) := by decide +kernel
theorem dL_isDug_887 : decode cL_isDug 887 = .ok (.aload_n 0, 1) := by decide +kernel
theorem dL_isDug_888 : decode cL_isDug 888 = .ok (.iload 5, 2) := by decide +kernel
theorem dL_isDug_890 : decode cL_isDug 890 = .ok (.bipush 6, 2) := by decide +kernel
theorem dL_isDug_892 : decode cL_isDug 892 = .ok (.invokevirtual 85, 3) := by decide +kernel
theorem dL_isDug_895 : decode cL_isDug 895 = .ok (.iload 12, 2) := by decide +kernel
theorem dL_isDug_897 : decode cL_isDug 897 = .ok (.iconst 1, 1) := by decide +kernel
theorem dL_isDug_898 : decode cL_isDug 898 = .ok (.iadd, 1) := by decide +kernel
theorem dL_isDug_899 : decode cL_isDug 899 = .ok (.if_icmp .ne 41, 3) := by decide +kernel
theorem dL_isDug_902 : decode cL_isDug 902 = .ok (.aload_n 0, 1) := by decide +kernel
theorem dL_isDug_903 : decode cL_isDug 903 = .ok (.iload 5, 2) := by decide +kernel
theorem dL_isDug_905 : decode cL_isDug 905 = .ok (.iconst 0, 1) := by decide +kernel
theorem dL_isDug_906 : decode cL_isDug 906 = .ok (.invokevirtual 85, 3) := by decide +kernel
theorem dL_isDug_909 : decode cL_isDug 909 = .ok (.iload 8, 2) := by decide +kernel
theorem dL_isDug_911 : decode cL_isDug 911 = .ok (.if_icmp .ne 29, 3) := by decide +kernel
theorem dL_isDug_914 : decode cL_isDug 914 = .ok (.aload_n 0, 1) := by decide +kernel
theorem dL_isDug_915 : decode cL_isDug 915 = .ok (.iload 5, 2) := by decide +kernel
theorem dL_isDug_917 : decode cL_isDug 917 = .ok (.iconst 3, 1) := by decide +kernel
theorem dL_isDug_918 : decode cL_isDug 918 = .ok (.invokevirtual 85, 3) := by decide +kernel
theorem dL_isDug_921 : decode cL_isDug 921 = .ok (.iload 11, 2) := by decide +kernel
theorem dL_isDug_923 : decode cL_isDug 923 = .ok (.if_icmp .ne 17, 3) := by decide +kernel
theorem dL_isDug_926 : decode cL_isDug 926 = .ok (.aload_n 0, 1) := by decide +kernel
theorem dL_isDug_927 : decode cL_isDug 927 = .ok (.iconst 3, 1) := by decide +kernel
theorem dL_isDug_928 : decode cL_isDug 928 = .ok (.invokevirtual 91, 3) := by decide +kernel
theorem dL_isDug_931 : decode cL_isDug 931 = .ok (.iload 13, 2) := by decide +kernel
theorem dL_isDug_933 : decode cL_isDug 933 = .ok (.if_icmp .ne 7, 3) := by decide +kernel
theorem dL_isDug_936 : decode cL_isDug 936 = .ok (.iconst 1, 1) := by decide +kernel
theorem dL_isDug_937 : decode cL_isDug 937 = .ok (.goto 4, 3) := by decide +kernel
theorem dL_isDug_940 : decode cL_isDug 940 = .ok (.iconst 0, 1) := by decide +kernel
theorem dL_isDug_941 : decode cL_isDug 941 = .ok (.ireturn, 1) := by decide +kernel
theorem dL_isDug_942 : decode cL_isDug 942 = .ok (.iload 8, 2) := by decide +kernel
theorem dL_isDug_944 : decode cL_isDug 944 = .ok (.aload_n 0, 1) := by decide +kernel
theorem dL_isDug_945 : decode cL_isDug 945 = .ok (.iload 5, 2) := by decide +kernel
theorem dL_isDug_947 : decode cL_isDug 947 = .ok (.iconst 0, 1) := by decide +kernel
theorem dL_isDug_948 : decode cL_isDug 948 = .ok (.invokevirtual 85, 3) := by decide +kernel
theorem dL_isDug_951 : decode cL_isDug 951 = .ok (.isub, 1) := by decide +kernel
theorem dL_isDug_952 : decode cL_isDug 952 = .ok (.istore 15, 2) := by decide +kernel
theorem dL_isDug_954 : decode cL_isDug 954 = .ok (.iload 14, 2) := by decide +kernel
theorem dL_isDug_956 : decode cL_isDug 956 = .ok (.iload 10, 2) := by decide +kernel
theorem dL_isDug_958 : decode cL_isDug 958 = .ok (.bipush 10, 2) := by decide +kernel
theorem dL_isDug_960 : decode cL_isDug 960 = .ok (.idiv, 1) := by decide +kernel
theorem dL_isDug_961 : decode cL_isDug 961 = .ok (.if_icmp .lt 81, 3) := by decide +kernel
theorem dL_isDug_964 : decode cL_isDug 964 = .ok (.aload_n 0, 1) := by decide +kernel
theorem dL_isDug_965 : decode cL_isDug 965 = .ok (.iload 5, 2) := by decide +kernel
theorem dL_isDug_967 : decode cL_isDug 967 = .ok (.iconst 3, 1) := by decide +kernel
theorem dL_isDug_968 : decode cL_isDug 968 = .ok (.invokevirtual 85, 3) := by decide +kernel
theorem dL_isDug_971 : decode cL_isDug 971 = .ok (.iload 11, 2) := by decide +kernel
theorem dL_isDug_973 : decode cL_isDug 973 = .ok (.iload 14, 2) := by decide +kernel
theorem dL_isDug_975 : decode cL_isDug 975 = .ok (.iadd, 1) := by decide +kernel
theorem dL_isDug_976 : decode cL_isDug 976 = .ok (.if_icmp .ne 66, 3) := by decide +kernel
theorem dL_isDug_979 : decode cL_isDug 979 = .ok (.aload_n 0, 1) := by decide +kernel
theorem dL_isDug_980 : decode cL_isDug 980 = .ok (.iconst 3, 1) := by decide +kernel
theorem dL_isDug_981 : decode cL_isDug 981 = .ok (.invokevirtual 91, 3) := by decide +kernel
theorem dL_isDug_984 : decode cL_isDug 984 = .ok (.iload 13, 2) := by decide +kernel
theorem dL_isDug_986 : decode cL_isDug 986 = .ok (.iload 15, 2) := by decide +kernel
theorem dL_isDug_988 : decode cL_isDug 988 = .ok (.iadd, 1) := by decide +kernel
theorem dL_isDug_989 : decode cL_isDug 989 = .ok (.if_icmp .ne 53, 3) := by decide +kernel
theorem dL_isDug_992 : decode cL_isDug 992 = .ok (.iload 15, 2) := by decide +kernel
theorem dL_isDug_994 : decode cL_isDug 994 = .ok (.iload 9, 2) := by decide +kernel
theorem dL_isDug_996 : decode cL_isDug 996 = .ok (.iadd, 1) := by decide +kernel
theorem dL_isDug_997 : decode cL_isDug 997 = .ok (.aload_n 0, 1) := by decide +kernel
theorem dL_isDug_998 : decode cL_isDug 998 = .ok (.iload 5, 2) := by decide +kernel
theorem dL_isDug_1000 : decode cL_isDug 1000 = .ok (.iconst 1, 1) := by decide +kernel
theorem dL_isDug_1001 : decode cL_isDug 1001 = .ok (.invokevirtual 85, 3) := by decide +kernel
theorem dL_isDug_1004 : decode cL_isDug 1004 = .ok (.isub, 1) := by decide +kernel
theorem dL_isDug_1005 : decode cL_isDug 1005 = .ok (.iload 10, 2) := by decide +kernel
theorem dL_isDug_1007 : decode cL_isDug 1007 = .ok (.if_icmp .ne 35, 3) := by decide +kernel
theorem dL_isDug_1010 : decode cL_isDug 1010 = .ok (.iload 15, 2) := by decide +kernel
theorem dL_isDug_1012 : decode cL_isDug 1012 = .ok (.ifCond .lt 30, 3) := by decide +kernel
theorem dL_isDug_1015 : decode cL_isDug 1015 = .ok (.aload_n 0, 1) := by decide +kernel
theorem dL_isDug_1016 : decode cL_isDug 1016 = .ok (.iload 5, 2) := by decide +kernel
theorem dL_isDug_1018 : decode cL_isDug 1018 = .ok (.iconst 1, 1) := by decide +kernel
theorem dL_isDug_1019 : decode cL_isDug 1019 = .ok (.invokevirtual 85, 3) := by decide +kernel
theorem dL_isDug_1022 : decode cL_isDug 1022 = .ok (.ifCond .lt 20, 3) := by decide +kernel
theorem dL_isDug_1025 : decode cL_isDug 1025 = .ok (.aload_n 0, 1) := by decide +kernel
theorem dL_isDug_1026 : decode cL_isDug 1026 = .ok (.iload 5, 2) := by decide +kernel
theorem dL_isDug_1028 : decode cL_isDug 1028 = .ok (.bipush 6, 2) := by decide +kernel
theorem dL_isDug_1030 : decode cL_isDug 1030 = .ok (.invokevirtual 85, 3) := by decide +kernel
theorem dL_isDug_1033 : decode cL_isDug 1033 = .ok (.iload 12, 2) := by decide +kernel
theorem dL_isDug_1035 : decode cL_isDug 1035 = .ok (.if_icmp .ne 7, 3) := by decide +kernel
theorem dL_isDug_1038 : decode cL_isDug 1038 = .ok (.iconst 1, 1) := by decide +kernel
theorem dL_isDug_1039 : decode cL_isDug 1039 = .ok (.goto 4, 3) := by decide +kernel
theorem dL_isDug_1042 : decode cL_isDug 1042 = .ok (.iconst 0, 1) := by decide +kernel
theorem dL_isDug_1043 : decode cL_isDug 1043 = .ok (.ireturn, 1) := by decide +kernel
