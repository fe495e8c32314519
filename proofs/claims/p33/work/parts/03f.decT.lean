theorem dL_isTold_0 : decode cL_isTold 0 = .ok (.iload 4, 2) := by decide +kernel
theorem dL_isTold_2 : decode cL_isTold 2 = .ok (.ifCond .eq 9, 3) := by decide +kernel
theorem dL_isTold_5 : decode cL_isTold 5 = .ok (.aload_n 1, 1) := by decide +kernel
theorem dL_isTold_6 : decode cL_isTold 6 = .ok (.iconst 0, 1) := by decide +kernel
theorem dL_isTold_7 : decode cL_isTold 7 = .ok (.iaload, 1) := by decide +kernel
theorem dL_isTold_8 : decode cL_isTold 8 = .ok (.ifCond .ne 168, 3) := by decide +kernel
theorem dL_isTold_11 : decode cL_isTold 11 = .ok (.iload 5, 2) := by decide +kernel
theorem dL_isTold_13 : decode cL_isTold 13 = .ok (.iload 5, 2) := by decide +kernel
theorem dL_isTold_15 : decode cL_isTold 15 = .ok (.iconst 3, 1) := by decide +kernel
theorem dL_isTold_16 : decode cL_isTold 16 = .ok (.irem, 1) := by decide +kernel
theorem dL_isTold_17 : decode cL_isTold 17 = .ok (.ifCond .ne 9, 3) := by decide +kernel
theorem dL_isTold_20 : decode cL_isTold 20 = .ok (.sipush 1001, 3) := by decide +kernel
theorem dL_isTold_23 : decode cL_isTold 23 = .ok (.goto 5, 3) := by decide +kernel
theorem dL_isTold_26 : decode cL_isTold 26 = .ok (.bipush 30, 2) := by decide +kernel
theorem dL_isTold_28 : decode cL_isTold 28 = .ok (.irem, 1) := by decide +kernel
theorem dL_isTold_29 : decode cL_isTold 29 = .ok (.istore 6, 2) := by decide +kernel
theorem dL_isTold_31 : decode cL_isTold 31 = .ok (.aload_n 0, 1) := by decide +kernel
theorem dL_isTold_32 : decode cL_isTold 32 = .ok (.iconst 2, 1) := by decide +kernel
theorem dL_isTold_33 : decode cL_isTold 33 = .ok (.iload 6, 2) := by decide +kernel
theorem dL_isTold_35 : decode cL_isTold 35 = .ok (.iload 5, 2) := by decide +kernel
theorem dL_isTold_37 : decode cL_isTold 37 = .ok (.bipush 11, 2) := by decide +kernel
theorem dL_isTold_39 : decode cL_isTold 39 = .ok (.idiv, 1) := by decide +kernel
theorem dL_isTold_40 : decode cL_isTold 40 = .ok (.sipush 600, 3) := by decide +kernel
theorem dL_isTold_43 : decode cL_isTold 43 = .ok (.irem, 1) := by decide +kernel
theorem dL_isTold_44 : decode cL_isTold 44 = .ok (.iconst 0, 1) := by decide +kernel
theorem dL_isTold_45 : decode cL_isTold 45 = .ok (.iconst 0, 1) := by decide +kernel
theorem dL_isTold_46 : decode cL_isTold 46 = .ok (.invokestatic 123, 3) := by decide +kernel
theorem dL_isTold_49 : decode cL_isTold 49 = .ok (.istore 7, 2) := by decide +kernel
theorem dL_isTold_51 : decode cL_isTold 51 = .ok (.iload 7, 2) := by decide +kernel
theorem dL_isTold_53 : decode cL_isTold 53 = .ok (.aload_n 1, 1) := by decide +kernel
theorem dL_isTold_54 : decode cL_isTold 54 = .ok (.iconst 0, 1) := by decide +kernel
theorem dL_isTold_55 : decode cL_isTold 55 = .ok (.iaload, 1) := by decide +kernel
theorem dL_isTold_56 : decode cL_isTold 56 = .ok (.bipush 12, 2) := by decide +kernel
theorem dL_isTold_58 : decode cL_isTold 58 = .ok (.if_icmp .ne 8, 3) := by decide +kernel
theorem dL_isTold_61 : decode cL_isTold 61 = .ok (.ldc 114, 2) := by decide +kernel
theorem dL_isTold_63 : decode cL_isTold 63 = .ok (.goto 6, 3) := by decide +kernel
theorem dL_isTold_66 : decode cL_isTold 66 = .ok (.aload_n 1, 1) := by decide +kernel
theorem dL_isTold_67 : decode cL_isTold 67 = .ok (.iconst 0, 1) := by decide +kernel
theorem dL_isTold_68 : decode cL_isTold 68 = .ok (.iaload, 1) := by decide +kernel
theorem dL_isTold_69 : decode cL_isTold 69 = .ok (.if_icmp .ne 7, 3) := by decide +kernel
theorem dL_isTold_72 : decode cL_isTold 72 = .ok (.iconst 1, 1) := by decide +kernel
theorem dL_isTold_73 : decode cL_isTold 73 = .ok (.goto 4, 3) := by decide +kernel
theorem dL_isTold_76 : decode cL_isTold 76 = .ok (.iconst 0, 1) := by decide +kernel
theorem dL_isTold_77 : decode cL_isTold 77 = .ok (.istore 8, 2) := by decide +kernel
theorem dL_isTold_79 : decode cL_isTold 79 = .ok (.aload_n 3, 1) := by decide +kernel
theorem dL_isTold_80 : decode cL_isTold 80 = .ok (.bipush 12, 2) := by decide +kernel
theorem dL_isTold_82 : decode cL_isTold 82 = .ok (.iload 7, 2) := by decide +kernel
theorem dL_isTold_84 : decode cL_isTold 84 = .ok (.ifCond .ge 7, 3) := by decide +kernel
theorem dL_isTold_87 : decode cL_isTold 87 = .ok (.iconst 0, 1) := by decide +kernel
theorem dL_isTold_88 : decode cL_isTold 88 = .ok (.goto 6, 3) := by decide +kernel
theorem dL_isTold_91 : decode cL_isTold 91 = .ok (.aload_n 1, 1) := by decide +kernel
theorem dL_isTold_92 : decode cL_isTold 92 = .ok (.iconst 0, 1) := by decide +kernel
theorem dL_isTold_93 : decode cL_isTold 93 = .ok (.iaload, 1) := by decide +kernel
theorem dL_isTold_94 : decode cL_isTold 94 = .ok (.iadd, 1) := by decide +kernel
theorem dL_isTold_95 : decode cL_isTold 95 = .ok (.iload 7, 2) := by decide +kernel
theorem dL_isTold_97 : decode cL_isTold 97 = .ok (.ifCond .ge 10, 3) := by decide +kernel
theorem dL_isTold_100 : decode cL_isTold 100 = .ok (.aload_n 3, 1) := by decide +kernel
theorem dL_isTold_101 : decode cL_isTold 101 = .ok (.bipush 12, 2) := by decide +kernel
theorem dL_isTold_103 : decode cL_isTold 103 = .ok (.iaload, 1) := by decide +kernel
theorem dL_isTold_104 : decode cL_isTold 104 = .ok (.goto 5, 3) := by decide +kernel
theorem dL_isTold_107 : decode cL_isTold 107 = .ok (.bipush 10, 2) := by decide +kernel
theorem dL_isTold_109 : decode cL_isTold 109 = .ok (.iastore, 1) := by decide +kernel
theorem dL_isTold_110 : decode cL_isTold 110 = .ok (.aload_n 1, 1) := by decide +kernel
theorem dL_isTold_111 : decode cL_isTold 111 = .ok (.iconst 0, 1) := by decide +kernel
theorem dL_isTold_112 : decode cL_isTold 112 = .ok (.dup2, 1) := by decide +kernel
theorem dL_isTold_113 : decode cL_isTold 113 = .ok (.iaload, 1) := by decide +kernel
theorem dL_isTold_114 : decode cL_isTold 114 = .ok (.iload 7, 2) := by decide +kernel
theorem dL_isTold_116 : decode cL_isTold 116 = .ok (.ifCond .lt 7, 3) := by decide +kernel
theorem dL_isTold_119 : decode cL_isTold 119 = .ok (.iconst 1, 1) := by decide +kernel
theorem dL_isTold_120 : decode cL_isTold 120 = .ok (.goto 4, 3) := by decide +kernel
theorem dL_isTold_123 : decode cL_isTold 123 = .ok (.iconst 0, 1) := by decide +kernel
theorem dL_isTold_124 : decode cL_isTold 124 = .ok (.iadd, 1) := by decide +kernel
theorem dL_isTold_125 : decode cL_isTold 125 = .ok (.iastore, 1) := by decide +kernel
theorem dL_isTold_126 : decode cL_isTold 126 = .ok (.iload 8, 2) := by decide +kernel
theorem dL_isTold_128 : decode cL_isTold 128 = .ok (.ifCond .eq 46, 3) := by decide +kernel
theorem dL_isTold_131 : decode cL_isTold 131 = .ok (.iload 7, 2) := by decide +kernel
theorem dL_isTold_133 : decode cL_isTold 133 = .ok (.ifCond .lt 37, 3) := by decide +kernel
theorem dL_isTold_136 : decode cL_isTold 136 = .ok (.aload_n 0, 1) := by decide +kernel
theorem dL_isTold_137 : decode cL_isTold 137 = .ok (.iload 7, 2) := by decide +kernel
theorem dL_isTold_139 : decode cL_isTold 139 = .ok (.iconst 2, 1) := by decide +kernel
theorem dL_isTold_140 : decode cL_isTold 140 = .ok (.invokevirtual 85, 3) := by decide +kernel
theorem dL_isTold_143 : decode cL_isTold 143 = .ok (.iload 6, 2) := by decide +kernel
theorem dL_isTold_145 : decode cL_isTold 145 = .ok (.if_icmp .ne 29, 3) := by decide +kernel
theorem dL_isTold_148 : decode cL_isTold 148 = .ok (.aload_n 0, 1) := by decide +kernel
theorem dL_isTold_149 : decode cL_isTold 149 = .ok (.iload 7, 2) := by decide +kernel
theorem dL_isTold_151 : decode cL_isTold 151 = .ok (.iconst 4, 1) := by decide +kernel
theorem dL_isTold_152 : decode cL_isTold 152 = .ok (.invokevirtual 85, 3) := by decide +kernel
theorem dL_isTold_155 : decode cL_isTold 155 = .ok (.bipush 10, 2) := by decide +kernel
theorem dL_isTold_157 : decode cL_isTold 157 = .ok (.if_icmp .ne 17, 3) := by decide +kernel
theorem dL_isTold_160 : decode cL_isTold 160 = .ok (.aload_n 0, 1) := by decide +kernel
theorem dL_isTold_161 : decode cL_isTold 161 = .ok (.iload 7, 2) := by decide +kernel
theorem dL_isTold_163 : decode cL_isTold 163 = .ok (.iconst 0, 1) := by decide +kernel
theorem dL_isTold_164 : decode cL_isTold 164 = .ok (.invokevirtual 85, 3) := by decide +kernel
theorem dL_isTold_167 : decode cL_isTold 167 = .ok (.ifCond .ne 7, 3) := by decide +kernel
theorem dL_isTold_170 : decode cL_isTold 170 = .ok (.iconst 1, 1) := by decide +kernel
theorem dL_isTold_171 : decode cL_isTold 171 = .ok (.goto 4, 3) := by decide +kernel
theorem dL_isTold_174 : decode cL_isTold 174 = .ok (.iconst 0, 1) := by decide +kernel
theorem dL_isTold_175 : decode cL_isTold 175 = .ok (.ireturn, 1) := by decide +kernel
theorem dL_isTold_176 : decode cL_isTold 176 = .ok (.iload 5, 2) := by decide +kernel
theorem dL_isTold_178 : decode cL_isTold 178 = .ok (.aload_n 1, 1) := by decide +kernel
theorem dL_isTold_179 : decode cL_isTold 179 = .ok (.iconst 0, 1) := by decide +kernel
theorem dL_isTold_180 : decode cL_isTold 180 = .ok (.iaload, 1) := by decide +kernel
theorem dL_isTold_181 : decode cL_isTold 181 = .ok (.irem, 1) := by decide +kernel
theorem dL_isTold_182 : decode cL_isTold 182 = .ok (.istore 6, 2) := by decide +kernel
theorem dL_isTold_184 : decode cL_isTold 184 = .ok (.iload 5, 2) := by decide +kernel
theorem dL_isTold_186 : decode cL_isTold 186 = .ok (.bipush 12, 2) := by decide +kernel
theorem dL_isTold_188 : decode cL_isTold 188 = .ok (.idiv, 1) := by decide +kernel
theorem dL_isTold_189 : decode cL_isTold 189 = .ok (.istore 7, 2) := by decide +kernel
theorem dL_isTold_191 : decode cL_isTold 191 = .ok (.aload_n 0, 1) := by decide +kernel
theorem dL_isTold_192 : decode cL_isTold 192 = .ok (.iload 6, 2) := by decide +kernel
theorem dL_isTold_194 : decode cL_isTold 194 = .ok (.iconst 4, 1) := by decide +kernel
theorem dL_isTold_195 : decode cL_isTold 195 = .ok (.invokevirtual 85, 3) := by decide +kernel
theorem dL_isTold_198 : decode cL_isTold 198 = .ok (.ifCond .ne 7, 3) := by decide +kernel
theorem dL_isTold_201 : decode cL_isTold 201 = .ok (.iconst 1, 1) := by decide +kernel
theorem dL_isTold_202 : decode cL_isTold 202 = .ok (.goto 4, 3) := by decide +kernel
theorem dL_isTold_205 : decode cL_isTold 205 = .ok (.iconst 0, 1) := by decide +kernel
theorem dL_isTold_206 : decode cL_isTold 206 = .ok (.istore 8, 2) := by decide +kernel
theorem dL_isTold_208 : decode cL_isTold 208 = .ok (.iload 4, 2) := by decide +kernel
theorem dL_isTold_210 : decode cL_isTold 210 = .ok (.iconst 4, 1) := by decide +kernel
theorem dL_isTold_211 : decode cL_isTold 211 = .ok (.if_icmp .ge 252, 3) := by decide +kernel
theorem dL_isTold_214 : decode cL_isTold 214 = .ok (.iload 7, 2) := by decide +kernel
theorem dL_isTold_216 : decode cL_isTold 216 = .ok (.bipush 40, 2) := by decide +kernel
theorem dL_isTold_218 : decode cL_isTold 218 = .ok (.irem, 1) := by decide +kernel
theorem dL_isTold_219 : decode cL_isTold 219 = .ok (.istore 9, 2) := by decide +kernel
theorem dL_isTold_221 : decode cL_isTold 221 = .ok (.iconst 1, 1) := by decide +kernel
theorem dL_isTold_222 : decode cL_isTold 222 = .ok (.iload 7, 2) := by decide +kernel
theorem dL_isTold_224 : decode cL_isTold 224 = .ok (.bipush 40, 2) := by decide +kernel
theorem dL_isTold_226 : decode cL_isTold 226 = .ok (.idiv, 1) := by decide +kernel
theorem dL_isTold_227 : decode cL_isTold 227 = .ok (.iload 7, 2) := by decide +kernel
theorem dL_isTold_229 : decode cL_isTold 229 = .ok (.bipush 6, 2) := by decide +kernel
theorem dL_isTold_231 : decode cL_isTold 231 = .ok (.irem, 1) := by decide +kernel
theorem dL_isTold_232 : decode cL_isTold 232 = .ok (.ifCond .ne 8, 3) := by decide +kernel
theorem dL_isTold_235 : decode cL_isTold 235 = .ok (.bipush 10, 2) := by decide +kernel
theorem dL_isTold_237 : decode cL_isTold 237 = .ok (.goto 4, 3) := by decide +kernel
theorem dL_isTold_240 : decode cL_isTold 240 = .ok (.iconst 4, 1) := by decide +kernel
theorem dL_isTold_241 : decode cL_isTold 241 = .ok (.irem, 1) := by decide +kernel
theorem dL_isTold_242 : decode cL_isTold 242 = .ok (.iadd, 1) := by decide +kernel
theorem dL_isTold_243 : decode cL_isTold 243 = .ok (.istore 10, 2) := by decide +kernel
theorem dL_isTold_245 : decode cL_isTold 245 = .ok (.iconst 1, 1) := by decide +kernel
theorem dL_isTold_246 : decode cL_isTold 246 = .ok (.istore 11, 2) := by decide +kernel
theorem dL_isTold_248 : decode cL_isTold 248 = .ok (.iload 9, 2) := by decide +kernel
theorem dL_isTold_250 : decode cL_isTold 250 = .ok (.istore 12, 2) := by decide +kernel
theorem dL_isTold_252 : decode cL_isTold 252 = .ok (.iload 12, 2) := by decide +kernel
theorem dL_isTold_254 : decode cL_isTold 254 = .ok (.iload 9, 2) := by decide +kernel
theorem dL_isTold_256 : decode cL_isTold 256 = .ok (.iload 10, 2) := by decide +kernel
theorem dL_isTold_258 : decode cL_isTold 258 = .ok (.iadd, 1) := by decide +kernel
theorem dL_isTold_259 : decode cL_isTold 259 = .ok (.if_icmp .ge 37, 3) := by decide +kernel
theorem dL_isTold_262 : decode cL_isTold 262 = .ok (.iload 12, 2) := by decide +kernel
theorem dL_isTold_264 : decode cL_isTold 264 = .ok (.bipush 40, 2) := by decide +kernel
theorem dL_isTold_266 : decode cL_isTold 266 = .ok (.if_icmp .ge 30, 3) := by decide +kernel
theorem dL_isTold_269 : decode cL_isTold 269 = .ok (.iload 11, 2) := by decide +kernel
theorem dL_isTold_271 : decode cL_isTold 271 = .ok (.ifCond .eq 16, 3) := by decide +kernel
theorem dL_isTold_274 : decode cL_isTold 274 = .ok (.aload_n 0, 1) := by decide +kernel
theorem dL_isTold_275 : decode cL_isTold 275 = .ok (.iload 12, 2) := by decide +kernel
theorem dL_isTold_277 : decode cL_isTold 277 = .ok (.invokevirtual 79, 3) := by decide +kernel
theorem dL_isTold_280 : decode cL_isTold 280 = .ok (.ifCond .ge 7, 3) := by decide +kernel
theorem dL_isTold_283 : decode cL_isTold 283 = .ok (.iconst 1, 1) := by decide +kernel
theorem dL_isTold_284 : decode cL_isTold 284 = .ok (.goto 4, 3) := by decide +kernel
theorem dL_isTold_287 : decode cL_isTold 287 = .ok (.iconst 0, 1) := by decide +kernel
theorem dL_isTold_288 : decode cL_isTold 288 = .ok (.istore 11, 2) := by decide +kernel
theorem dL_isTold_290 : decode cL_isTold 290 = .ok (.iinc 12 1, 3) := by decide +kernel
theorem dL_isTold_293 : decode cL_isTold 293 = .ok (.goto (-41), 3) := by decide +kernel
theorem dL_isTold_296 : decode cL_isTold 296 = .ok (.iload 8, 2) := by decide +kernel
theorem dL_isTold_298 : decode cL_isTold 298 = .ok (.ifCond .ne 30, 3) := by decide +kernel
theorem dL_isTold_301 : decode cL_isTold 301 = .ok (.iload 10, 2) := by decide +kernel
theorem dL_isTold_303 : decode cL_isTold 303 = .ok (.aload_n 0, 1) := by decide +kernel
theorem dL_isTold_304 : decode cL_isTold 304 = .ok (.iconst 0, 1) := by decide +kernel
theorem dL_isTold_305 : decode cL_isTold 305 = .ok (.invokevirtual 94, 3) := by decide +kernel
theorem dL_isTold_308 : decode cL_isTold 308 = .ok (.if_icmp .gt 20, 3) := by decide +kernel
theorem dL_isTold_311 : decode cL_isTold 311 = .ok (.iload 11, 2) := by decide +kernel
theorem dL_isTold_313 : decode cL_isTold 313 = .ok (.ifCond .eq 15, 3) := by decide +kernel
theorem dL_isTold_316 : decode cL_isTold 316 = .ok (.aload_n 1, 1) := by decide +kernel
theorem dL_isTold_317 : decode cL_isTold 317 = .ok (.iconst 1, 1) := by decide +kernel
theorem dL_isTold_318 : decode cL_isTold 318 = .ok (.iaload, 1) := by decide +kernel
theorem dL_isTold_319 : decode cL_isTold 319 = .ok (.bipush 30, 2) := by decide +kernel
theorem dL_isTold_321 : decode cL_isTold 321 = .ok (.if_icmp .ge 7, 3) := by decide +kernel
theorem dL_isTold_324 : decode cL_isTold 324 = .ok (.iconst 1, 1) := by decide +kernel
theorem dL_isTold_325 : decode cL_isTold 325 = .ok (.goto 4, 3) := by decide +kernel
theorem dL_isTold_328 : decode cL_isTold 328 = .ok (.iconst 0, 1) := by decide +kernel
theorem dL_isTold_329 : decode cL_isTold 329 = .ok (.istore 12, 2) := by decide +kernel
theorem dL_isTold_331 : decode cL_isTold 331 = .ok (.aload_n 0, 1) := by decide +kernel
theorem dL_isTold_332 : decode cL_isTold 332 = .ok (.iconst 5, 1) := by decide +kernel
theorem dL_isTold_333 : decode cL_isTold 333 = .ok (.iload 6, 2) := by decide +kernel
theorem dL_isTold_335 : decode cL_isTold 335 = .ok (.iload 9, 2) := by decide +kernel
theorem dL_isTold_337 : decode cL_isTold 337 = .ok (.iload 10, 2) := by decide +kernel
theorem dL_isTold_339 : decode cL_isTold 339 = .ok (.iconst 0, 1) := by decide +kernel
theorem dL_isTold_340 : decode cL_isTold 340 = .ok (.invokestatic 123, 3) := by decide +kernel
theorem dL_isTold_343 : decode cL_isTold 343 = .ok (.istore 13, 2) := by decide +kernel
theorem dL_isTold_345 : decode cL_isTold 345 = .ok (.aload_n 1, 1) := by decide +kernel
theorem dL_isTold_346 : decode cL_isTold 346 = .ok (.iconst 1, 1) := by decide +kernel
theorem dL_isTold_347 : decode cL_isTold 347 = .ok (.dup2, 1) := by decide +kernel
theorem dL_isTold_348 : decode cL_isTold 348 = .ok (.iaload, 1) := by decide +kernel
theorem dL_isTold_349 : decode cL_isTold 349 = .ok (.iload 13, 2) := by decide +kernel
theorem dL_isTold_351 : decode cL_isTold 351 = .ok (.ifCond .lt 7, 3) := by decide +kernel
theorem dL_isTold_354 : decode cL_isTold 354 = .ok (.iconst 1, 1) := by decide +kernel
theorem dL_isTold_355 : decode cL_isTold 355 = .ok (.goto 4, 3) := by decide +kernel
theorem dL_isTold_358 : decode cL_isTold 358 = .ok (.iconst 0, 1) := by decide +kernel
theorem dL_isTold_359 : decode cL_isTold 359 = .ok (.iadd, 1) := by decide +kernel
theorem dL_isTold_360 : decode cL_isTold 360 = .ok (.iastore, 1) := by decide +kernel
theorem dL_isTold_361 : decode cL_isTold 361 = .ok (.iload 13, 2) := by decide +kernel
theorem dL_isTold_363 : decode cL_isTold 363 = .ok (.iload 9, 2) := by decide +kernel
theorem dL_isTold_365 : decode cL_isTold 365 = .ok (.iload 10, 2) := by decide +kernel
theorem dL_isTold_367 : decode cL_isTold 367 = .ok (.iadd, 1) := by decide +kernel
theorem dL_isTold_368 : decode cL_isTold 368 = .ok (.bipush 40, 2) := by decide +kernel
theorem dL_isTold_370 : decode cL_isTold 370 = .ok (.if_icmp .le 8, 3) := by decide +kernel
theorem dL_isTold_373 : decode cL_isTold 373 = .ok (.ldc 108, 2) := by decide +kernel
theorem dL_isTold_375 : decode cL_isTold 375 = .ok (.goto 18, 3) := by decide +kernel
theorem dL_isTold_378 : decode cL_isTold 378 = .ok (.iload 12, 2) := by decide +kernel
theorem dL_isTold_380 : decode cL_isTold 380 = .ok (.ifCond .eq 11, 3) := by decide +kernel
theorem dL_isTold_383 : decode cL_isTold 383 = .ok (.aload_n 1, 1) := by decide +kernel
theorem dL_isTold_384 : decode cL_isTold 384 = .ok (.iconst 1, 1) := by decide +kernel
theorem dL_isTold_385 : decode cL_isTold 385 = .ok (.iaload, 1) := by decide +kernel
theorem dL_isTold_386 : decode cL_isTold 386 = .ok (.iconst 1, 1) := by decide +kernel
theorem dL_isTold_387 : decode cL_isTold 387 = .ok (.isub, 1) := by decide +kernel
theorem dL_isTold_388 : decode cL_isTold 388 = .ok (.goto 5, 3) := by decide +kernel
theorem dL_isTold_391 : decode cL_isTold 391 = .ok (.ldc 114, 2) := by decide +kernel
theorem dL_isTold_393 : decode cL_isTold 393 = .ok (.if_icmp .ne 68, 3) := by decide +kernel
theorem dL_isTold_396 : decode cL_isTold 396 = .ok (.iload 13, 2) := by decide +kernel
theorem dL_isTold_398 : decode cL_isTold 398 = .ok (.ifCond .lt 59, 3) := by decide +kernel
theorem dL_isTold_401 : decode cL_isTold 401 = .ok (.aload_n 0, 1) := by decide +kernel
theorem dL_isTold_402 : decode cL_isTold 402 = .ok (.iload 9, 2) := by decide +kernel
theorem dL_isTold_404 : decode cL_isTold 404 = .ok (.invokevirtual 79, 3) := by decide +kernel
theorem dL_isTold_407 : decode cL_isTold 407 = .ok (.iload 13, 2) := by decide +kernel
theorem dL_isTold_409 : decode cL_isTold 409 = .ok (.if_icmp .ne 52, 3) := by decide +kernel
theorem dL_isTold_412 : decode cL_isTold 412 = .ok (.aload_n 0, 1) := by decide +kernel
theorem dL_isTold_413 : decode cL_isTold 413 = .ok (.iload 9, 2) := by decide +kernel
theorem dL_isTold_415 : decode cL_isTold 415 = .ok (.iload 10, 2) := by decide +kernel
theorem dL_isTold_417 : decode cL_isTold 417 = .ok (.iadd, 1) := by decide +kernel
theorem dL_isTold_418 : decode cL_isTold 418 = .ok (.iconst 1, 1) := by decide +kernel
theorem dL_isTold_419 : decode cL_isTold 419 = .ok (.isub, 1) := by decide +kernel
theorem dL_isTold_420 : decode cL_isTold 420 = .ok (.invokevirtual 79, 3) := by decide +kernel
theorem dL_isTold_423 : decode cL_isTold 423 = .ok (.iload 13, 2) := by decide +kernel
theorem dL_isTold_425 : decode cL_isTold 425 = .ok (.if_icmp .ne 36, 3) := by decide +kernel
theorem dL_isTold_428 : decode cL_isTold 428 = .ok (.aload_n 0, 1) := by decide +kernel
theorem dL_isTold_429 : decode cL_isTold 429 = .ok (.iload 13, 2) := by decide +kernel
theorem dL_isTold_431 : decode cL_isTold 431 = .ok (.iconst 4, 1) := by decide +kernel
theorem dL_isTold_432 : decode cL_isTold 432 = .ok (.invokevirtual 82, 3) := by decide +kernel
theorem dL_isTold_435 : decode cL_isTold 435 = .ok (.aload_n 0, 1) := by decide +kernel
theorem dL_isTold_436 : decode cL_isTold 436 = .ok (.invokevirtual 127, 3) := by decide +kernel
theorem dL_isTold_439 : decode cL_isTold 439 = .ok (.if_icmp .ne 22, 3) := by decide +kernel
theorem dL_isTold_442 : decode cL_isTold 442 = .ok (.aload_n 0, 1) := by decide +kernel
theorem dL_isTold_443 : decode cL_isTold 443 = .ok (.iload 13, 2) := by decide +kernel
theorem dL_isTold_445 : decode cL_isTold 445 = .ok (.iconst 5, 1) := by decide +kernel
theorem dL_isTold_446 : decode cL_isTold 446 = .ok (.invokevirtual 82, 3) := by decide +kernel
theorem dL_isTold_449 : decode cL_isTold 449 = .ok (.aload_n 0, 1) := by decide +kernel
theorem dL_isTold_450 : decode cL_isTold 450 = .ok (.iconst 1, 1) := by decide +kernel
theorem dL_isTold_451 : decode cL_isTold 451 = .ok (.invokevirtual 94, 3) := by decide +kernel
theorem dL_isTold_454 : decode cL_isTold 454 = .ok (.if_icmp .ne 7, 3) := by decide +kernel
theorem dL_isTold_457 : decode cL_isTold 457 = .ok (.iconst 1, 1) := by decide +kernel
theorem dL_isTold_458 : decode cL_isTold 458 = .ok (.goto 4, 3) := by decide +kernel
theorem dL_isTold_461 : decode cL_isTold 461 = .ok (.iconst 0, 1) := by decide +kernel
theorem dL_isTold_462 : decode cL_isTold 462 = .ok (.ireturn, 1) := by decide +kernel
theorem dL_isTold_463 : decode cL_isTold 463 = .ok (.iload 4, 2) := by decide +kernel
theorem dL_isTold_465 : decode cL_isTold 465 = .ok (.bipush 6, 2) := by decide +kernel
theorem dL_isTold_467 : decode cL_isTold 467 = .ok (.if_icmp .ge 101, 3) := by decide +kernel
theorem dL_isTold_470 : decode cL_isTold 470 = .ok (.iconst 1, 1) := by decide +kernel
theorem dL_isTold_471 : decode cL_isTold 471 = .ok (.iload 7, 2) := by decide +kernel
theorem dL_isTold_473 : decode cL_isTold 473 = .ok (.iload 7, 2) := by decide +kernel
theorem dL_isTold_475 : decode cL_isTold 475 = .ok (.iconst 4, 1) := by decide +kernel
theorem dL_isTold_476 : decode cL_isTold 476 = .ok (.irem, 1) := by decide +kernel
theorem dL_isTold_477 : decode cL_isTold 477 = .ok (.ifCond .ne 9, 3) := by decide +kernel
theorem dL_isTold_480 : decode cL_isTold 480 = .ok (.sipush 200, 3) := by decide +kernel
theorem dL_isTold_483 : decode cL_isTold 483 = .ok (.goto 5, 3) := by decide +kernel
theorem dL_isTold_486 : decode cL_isTold 486 = .ok (.bipush 45, 2) := by decide +kernel
theorem dL_isTold_488 : decode cL_isTold 488 = .ok (.irem, 1) := by decide +kernel
theorem dL_isTold_489 : decode cL_isTold 489 = .ok (.iadd, 1) := by decide +kernel
theorem dL_isTold_490 : decode cL_isTold 490 = .ok (.istore 9, 2) := by decide +kernel
theorem dL_isTold_492 : decode cL_isTold 492 = .ok (.aload_n 0, 1) := by decide +kernel
theorem dL_isTold_493 : decode cL_isTold 493 = .ok (.bipush 6, 2) := by decide +kernel
theorem dL_isTold_495 : decode cL_isTold 495 = .ok (.iload 6, 2) := by decide +kernel
theorem dL_isTold_497 : decode cL_isTold 497 = .ok (.iload 9, 2) := by decide +kernel
theorem dL_isTold_499 : decode cL_isTold 499 = .ok (.iconst 0, 1) := by decide +kernel
theorem dL_isTold_500 : decode cL_isTold 500 = .ok (.iconst 0, 1) := by decide +kernel
theorem dL_isTold_501 : decode cL_isTold 501 = .ok (.invokestatic 123, 3) := by decide +kernel
theorem dL_isTold_504 : decode cL_isTold 504 = .ok (.istore 10, 2) := by decide +kernel
theorem dL_isTold_506 : decode cL_isTold 506 = .ok (.iload 10, 2) := by decide +kernel
theorem dL_isTold_508 : decode cL_isTold 508 = .ok (.iload 8, 2) := by decide +kernel
theorem dL_isTold_510 : decode cL_isTold 510 = .ok (.ifCond .ne 11, 3) := by decide +kernel
theorem dL_isTold_513 : decode cL_isTold 513 = .ok (.aload_n 1, 1) := by decide +kernel
theorem dL_isTold_514 : decode cL_isTold 514 = .ok (.iconst 2, 1) := by decide +kernel
theorem dL_isTold_515 : decode cL_isTold 515 = .ok (.iaload, 1) := by decide +kernel
theorem dL_isTold_516 : decode cL_isTold 516 = .ok (.bipush 20, 2) := by decide +kernel
theorem dL_isTold_518 : decode cL_isTold 518 = .ok (.if_icmp .ne 8, 3) := by decide +kernel
theorem dL_isTold_521 : decode cL_isTold 521 = .ok (.ldc 114, 2) := by decide +kernel
theorem dL_isTold_523 : decode cL_isTold 523 = .ok (.goto 6, 3) := by decide +kernel
theorem dL_isTold_526 : decode cL_isTold 526 = .ok (.aload_n 1, 1) := by decide +kernel
theorem dL_isTold_527 : decode cL_isTold 527 = .ok (.iconst 2, 1) := by decide +kernel
theorem dL_isTold_528 : decode cL_isTold 528 = .ok (.iaload, 1) := by decide +kernel
theorem dL_isTold_529 : decode cL_isTold 529 = .ok (.if_icmp .ne 7, 3) := by decide +kernel
theorem dL_isTold_532 : decode cL_isTold 532 = .ok (.iconst 1, 1) := by decide +kernel
theorem dL_isTold_533 : decode cL_isTold 533 = .ok (.goto 4, 3) := by decide +kernel
theorem dL_isTold_536 : decode cL_isTold 536 = .ok (.iconst 0, 1) := by decide +kernel
theorem dL_isTold_537 : decode cL_isTold 537 = .ok (.istore 11, 2) := by decide +kernel
theorem dL_isTold_539 : decode cL_isTold 539 = .ok (.iload 10, 2) := by decide +kernel
theorem dL_isTold_541 : decode cL_isTold 541 = .ok (.ifCond .lt 24, 3) := by decide +kernel
theorem dL_isTold_544 : decode cL_isTold 544 = .ok (.aload_n 2, 1) := by decide +kernel
theorem dL_isTold_545 : decode cL_isTold 545 = .ok (.aload_n 1, 1) := by decide +kernel
theorem dL_isTold_546 : decode cL_isTold 546 = .ok (.iconst 2, 1) := by decide +kernel
theorem dL_isTold_547 : decode cL_isTold 547 = .ok (.iaload, 1) := by decide +kernel
theorem dL_isTold_548 : decode cL_isTold 548 = .ok (.iload 9, 2) := by decide +kernel
theorem dL_isTold_550 : decode cL_isTold 550 = .ok (.sipush 1000, 3) := by decide +kernel
theorem dL_isTold_553 : decode cL_isTold 553 = .ok (.iload 6, 2) := by decide +kernel
theorem dL_isTold_555 : decode cL_isTold 555 = .ok (.imul, 1) := by decide +kernel
theorem dL_isTold_556 : decode cL_isTold 556 = .ok (.iadd, 1) := by decide +kernel
theorem dL_isTold_557 : decode cL_isTold 557 = .ok (.iastore, 1) := by decide +kernel
theorem dL_isTold_558 : decode cL_isTold 558 = .ok (.aload_n 1, 1) := by decide +kernel
theorem dL_isTold_559 : decode cL_isTold 559 = .ok (.iconst 2, 1) := by decide +kernel
theorem dL_isTold_560 : decode cL_isTold 560 = .ok (.dup2, 1) := by decide +kernel
theorem dL_isTold_561 : decode cL_isTold 561 = .ok (.iaload, 1) := by decide +kernel
theorem dL_isTold_562 : decode cL_isTold 562 = .ok (.iconst 1, 1) := by decide +kernel
theorem dL_isTold_563 : decode cL_isTold 563 = .ok (.iadd, 1) := by decide +kernel
theorem dL_isTold_564 : decode cL_isTold 564 = .ok (.iastore, 1) := by decide +kernel
theorem dL_isTold_565 : decode cL_isTold 565 = .ok (.iload 11, 2) := by decide +kernel
theorem dL_isTold_567 : decode cL_isTold 567 = .ok (.ireturn, 1) := by decide +kernel
theorem dL_isTold_568 : decode cL_isTold 568 = .ok (.iload 4, 2) := by decide +kernel
theorem dL_isTold_570 : decode cL_isTold 570 = .ok (.bipush 6, 2) := by decide +kernel
theorem dL_isTold_572 : decode cL_isTold 572 = .ok (.if_icmp .ne 57, 3) := by decide +kernel
theorem dL_isTold_575 : decode cL_isTold 575 = .ok (.iload 7, 2) := by decide +kernel
theorem dL_isTold_577 : decode cL_isTold 577 = .ok (.iload 7, 2) := by decide +kernel
theorem dL_isTold_579 : decode cL_isTold 579 = .ok (.iconst 3, 1) := by decide +kernel
theorem dL_isTold_580 : decode cL_isTold 580 = .ok (.irem, 1) := by decide +kernel
theorem dL_isTold_581 : decode cL_isTold 581 = .ok (.ifCond .ne 9, 3) := by decide +kernel
theorem dL_isTold_584 : decode cL_isTold 584 = .ok (.sipush 1001, 3) := by decide +kernel
theorem dL_isTold_587 : decode cL_isTold 587 = .ok (.goto 5, 3) := by decide +kernel
theorem dL_isTold_590 : decode cL_isTold 590 = .ok (.bipush 90, 2) := by decide +kernel
theorem dL_isTold_592 : decode cL_isTold 592 = .ok (.irem, 1) := by decide +kernel
theorem dL_isTold_593 : decode cL_isTold 593 = .ok (.istore 9, 2) := by decide +kernel
theorem dL_isTold_595 : decode cL_isTold 595 = .ok (.aload_n 0, 1) := by decide +kernel
theorem dL_isTold_596 : decode cL_isTold 596 = .ok (.iconst 1, 1) := by decide +kernel
theorem dL_isTold_597 : decode cL_isTold 597 = .ok (.iload 9, 2) := by decide +kernel
theorem dL_isTold_599 : decode cL_isTold 599 = .ok (.iconst 0, 1) := by decide +kernel
theorem dL_isTold_600 : decode cL_isTold 600 = .ok (.iconst 0, 1) := by decide +kernel
theorem dL_isTold_601 : decode cL_isTold 601 = .ok (.iconst 0, 1) := by decide +kernel
theorem dL_isTold_602 : decode cL_isTold 602 = .ok (.invokestatic 123, 3) := by decide +kernel
theorem dL_isTold_605 : decode cL_isTold 605 = .ok (.ifCond .lt 22, 3) := by decide +kernel
theorem dL_isTold_608 : decode cL_isTold 608 = .ok (.aload_n 0, 1) := by decide +kernel
theorem dL_isTold_609 : decode cL_isTold 609 = .ok (.iconst 1, 1) := by decide +kernel
theorem dL_isTold_610 : decode cL_isTold 610 = .ok (.iload 9, 2) := by decide +kernel
theorem dL_isTold_612 : decode cL_isTold 612 = .ok (.iconst 0, 1) := by decide +kernel
theorem dL_isTold_613 : decode cL_isTold 613 = .ok (.iconst 0, 1) := by decide +kernel
theorem dL_isTold_614 : decode cL_isTold 614 = .ok (.iconst 0, 1) := by decide +kernel
theorem dL_isTold_615 : decode cL_isTold 615 = .ok (.invokestatic 123, 3) := by decide +kernel
theorem dL_isTold_618 : decode cL_isTold 618 = .ok (.iload 9, 2) := by decide +kernel
theorem dL_isTold_620 : decode cL_isTold 620 = .ok (.if_icmp .ne 7, 3) := by decide +kernel
theorem dL_isTold_623 : decode cL_isTold 623 = .ok (.iconst 1, 1) := by decide +kernel
theorem dL_isTold_624 : decode cL_isTold 624 = .ok (.goto 4, 3) := by decide +kernel
theorem dL_isTold_627 : decode cL_isTold 627 = .ok (.iconst 0, 1) := by decide +kernel
theorem dL_isTold_628 : decode cL_isTold 628 = .ok (.ireturn, 1) := by decide +kernel
theorem dL_isTold_629 : decode cL_isTold 629 = .ok (.iload 4, 2) := by decide +kernel
theorem dL_isTold_631 : decode cL_isTold 631 = .ok (.bipush 7, 2) := by decide +kernel
theorem dL_isTold_633 : decode cL_isTold 633 = .ok (.if_icmp .ne 148, 3) := by decide +kernel
theorem dL_isTold_636 : decode cL_isTold 636 = .ok (.iload 7, 2) := by decide +kernel
theorem dL_isTold_638 : decode cL_isTold 638 = .ok (.bipush 7, 2) := by decide +kernel
theorem dL_isTold_640 : decode cL_isTold 640 = .ok (.irem, 1) := by decide +kernel
theorem dL_isTold_641 : decode cL_isTold 641 = .ok (.istore 9, 2) := by decide +kernel
theorem dL_isTold_643 : decode cL_isTold 643 = .ok (.iload 7, 2) := by decide +kernel
theorem dL_isTold_645 : decode cL_isTold 645 = .ok (.bipush 7, 2) := by decide +kernel
theorem dL_isTold_647 : decode cL_isTold 647 = .ok (.idiv, 1) := by decide +kernel
theorem dL_isTold_648 : decode cL_isTold 648 = .ok (.iconst 4, 1) := by decide +kernel
theorem dL_isTold_649 : decode cL_isTold 649 = .ok (.irem, 1) := by decide +kernel
theorem dL_isTold_650 : decode cL_isTold 650 = .ok (.istore 10, 2) := by decide +kernel
theorem dL_isTold_652 : decode cL_isTold 652 = .ok (.aload_n 0, 1) := by decide +kernel
theorem dL_isTold_653 : decode cL_isTold 653 = .ok (.iconst 0, 1) := by decide +kernel
theorem dL_isTold_654 : decode cL_isTold 654 = .ok (.invokevirtual 94, 3) := by decide +kernel
theorem dL_isTold_657 : decode cL_isTold 657 = .ok (.istore 11, 2) := by decide +kernel
theorem dL_isTold_659 : decode cL_isTold 659 = .ok (.aload_n 0, 1) := by decide +kernel
theorem dL_isTold_660 : decode cL_isTold 660 = .ok (.iconst 4, 1) := by decide +kernel
theorem dL_isTold_661 : decode cL_isTold 661 = .ok (.iconst 1, 1) := by decide +kernel
theorem dL_isTold_662 : decode cL_isTold 662 = .ok (.iload 7, 2) := by decide +kernel
theorem dL_isTold_664 : decode cL_isTold 664 = .ok (.bipush 28, 2) := by decide +kernel
theorem dL_isTold_666 : decode cL_isTold 666 = .ok (.idiv, 1) := by decide +kernel
theorem dL_isTold_667 : decode cL_isTold 667 = .ok (.bipush 10, 2) := by decide +kernel
theorem dL_isTold_669 : decode cL_isTold 669 = .ok (.irem, 1) := by decide +kernel
theorem dL_isTold_670 : decode cL_isTold 670 = .ok (.iadd, 1) := by decide +kernel
theorem dL_isTold_671 : decode cL_isTold 671 = .ok (.iconst 1, 1) := by decide +kernel
theorem dL_isTold_672 : decode cL_isTold 672 = .ok (.iload 7, 2) := by decide +kernel
theorem dL_isTold_674 : decode cL_isTold 674 = .ok (.bipush 31, 2) := by decide +kernel
theorem dL_isTold_676 : decode cL_isTold 676 = .ok (.idiv, 1) := by decide +kernel
theorem dL_isTold_677 : decode cL_isTold 677 = .ok (.bipush 20, 2) := by decide +kernel
theorem dL_isTold_679 : decode cL_isTold 679 = .ok (.irem, 1) := by decide +kernel
theorem dL_isTold_680 : decode cL_isTold 680 = .ok (.iadd, 1) := by decide +kernel
theorem dL_isTold_681 : decode cL_isTold 681 = .ok (.iload 9, 2) := by decide +kernel
theorem dL_isTold_683 : decode cL_isTold 683 = .ok (.iload 10, 2) := by decide +kernel
theorem dL_isTold_685 : decode cL_isTold 685 = .ok (.invokestatic 123, 3) := by decide +kernel
theorem dL_isTold_688 : decode cL_isTold 688 = .ok (.istore 12, 2) := by decide +kernel
theorem dL_isTold_690 : decode cL_isTold 690 = .ok (.iload 9, 2) := by decide +kernel
theorem dL_isTold_692 : decode cL_isTold 692 = .ok (.iload 10, 2) := by decide +kernel
theorem dL_isTold_694 : decode cL_isTold 694 = .ok (.iadd, 1) := by decide +kernel
theorem dL_isTold_695 : decode cL_isTold 695 = .ok (.aload_n 0, 1) := by decide +kernel
theorem dL_isTold_696 : decode cL_isTold 696 = .ok (.iconst 5, 1) := by decide +kernel
theorem dL_isTold_697 : decode cL_isTold 697 = .ok (.invokevirtual 94, 3) := by decide +kernel
theorem dL_isTold_700 : decode cL_isTold 700 = .ok (.if_icmp .le 28, 3) := by decide +kernel
theorem dL_isTold_703 : decode cL_isTold 703 = .ok (.iload 12, 2) := by decide +kernel
theorem dL_isTold_705 : decode cL_isTold 705 = .ok (.ldc 111, 2) := by decide +kernel
theorem dL_isTold_707 : decode cL_isTold 707 = .ok (.if_icmp .ne 17, 3) := by decide +kernel
theorem dL_isTold_710 : decode cL_isTold 710 = .ok (.aload_n 0, 1) := by decide +kernel
theorem dL_isTold_711 : decode cL_isTold 711 = .ok (.iconst 0, 1) := by decide +kernel
theorem dL_isTold_712 : decode cL_isTold 712 = .ok (.invokevirtual 94, 3) := by decide +kernel
theorem dL_isTold_715 : decode cL_isTold 715 = .ok (.iload 11, 2) := by decide +kernel
theorem dL_isTold_717 : decode cL_isTold 717 = .ok (.if_icmp .ne 7, 3) := by decide +kernel
theorem dL_isTold_720 : decode cL_isTold 720 = .ok (.iconst 1, 1) := by decide +kernel
theorem dL_isTold_721 : decode cL_isTold 721 = .ok (.goto 59, 3) := by decide +kernel
theorem dL_isTold_724 : decode cL_isTold 724 = .ok (.iconst 0, 1) := by decide +kernel
theorem dL_isTold_725 : decode cL_isTold 725 = .ok (.goto 55, 3) := by decide +kernel
theorem dL_isTold_728 : decode cL_isTold 728 = .ok (.iload 12, 2) := by decide +kernel
theorem dL_isTold_730 : decode cL_isTold 730 = .ok (.iload 9, 2) := by decide +kernel
theorem dL_isTold_732 : decode cL_isTold 732 = .ok (.iload 10, 2) := by decide +kernel
theorem dL_isTold_734 : decode cL_isTold 734 = .ok (.if_icmp .le 7, 3) := by decide +kernel
theorem dL_isTold_737 : decode cL_isTold 737 = .ok (.iconst 1, 1) := by decide +kernel
theorem dL_isTold_738 : decode cL_isTold 738 = .ok (.goto 4, 3) := by decide +kernel
theorem dL_isTold_741 : decode cL_isTold 741 = .ok (.iconst 0, 1) := by decide +kernel
theorem dL_isTold_742 : decode cL_isTold 742 = .ok (.if_icmp .ne 37, 3) := by decide +kernel
theorem dL_isTold_745 : decode cL_isTold 745 = .ok (.aload_n 0, 1) := by decide +kernel
theorem dL_isTold_746 : decode cL_isTold 746 = .ok (.iconst 0, 1) := by decide +kernel
theorem dL_isTold_747 : decode cL_isTold 747 = .ok (.invokevirtual 94, 3) := by decide +kernel
theorem dL_isTold_750 : decode cL_isTold 750 = .ok (.iload 9, 2) := by decide +kernel
theorem dL_isTold_752 : decode cL_isTold 752 = .ok (.iload 10, 2) := by decide +kernel
theorem dL_isTold_754 : decode cL_isTold 754 = .ok (.if_icmp .le 16, 3) := by decide +kernel
theorem dL_isTold_757 : decode cL_isTold 757 = .ok (.iconst 1, 1) := by decide +kernel
theorem dL_isTold_758 : decode cL_isTold 758 = .ok (.iload 7, 2) := by decide +kernel
theorem dL_isTold_760 : decode cL_isTold 760 = .ok (.bipush 28, 2) := by decide +kernel
theorem dL_isTold_762 : decode cL_isTold 762 = .ok (.idiv, 1) := by decide +kernel
theorem dL_isTold_763 : decode cL_isTold 763 = .ok (.bipush 10, 2) := by decide +kernel
theorem dL_isTold_765 : decode cL_isTold 765 = .ok (.irem, 1) := by decide +kernel
theorem dL_isTold_766 : decode cL_isTold 766 = .ok (.iadd, 1) := by decide +kernel
theorem dL_isTold_767 : decode cL_isTold 767 = .ok (.goto 5, 3) := by decide +kernel
theorem dL_isTold_770 : decode cL_isTold 770 = .ok (.iload 11, 2) := by decide +kernel
theorem dL_isTold_772 : decode cL_isTold 772 = .ok (.if_icmp .ne 7, 3) := by decide +kernel
theorem dL_isTold_775 : decode cL_isTold 775 = .ok (.iconst 1, 1) := by decide +kernel
theorem dL_isTold_776 : decode cL_isTold 776 = .ok (.goto 4, 3) := by decide +kernel
theorem dL_isTold_779 : decode cL_isTold 779 = .ok (.iconst 0, 1) := by decide +kernel
theorem dL_isTold_780 : decode cL_isTold 780 = .ok (.ireturn, 1) := by decide +kernel
theorem dL_isTold_781 : decode cL_isTold 781 = .ok (.iload 4, 2) := by decide +kernel
theorem dL_isTold_783 : decode cL_isTold 783 = .ok (.bipush 8, 2) := by decide +kernel
theorem dL_isTold_785 : decode cL_isTold 785 = .ok (.if_icmp .ne 104, 3) := by decide +kernel
theorem dL_isTold_788 : decode cL_isTold 788 = .ok (.aload_n 0, 1) := by decide +kernel
theorem dL_isTold_789 : decode cL_isTold 789 = .ok (.iconst 4, 1) := by decide +kernel
theorem dL_isTold_790 : decode cL_isTold 790 = .ok (.invokevirtual 94, 3) := by decide +kernel
theorem dL_isTold_793 : decode cL_isTold 793 = .ok (.istore 9, 2) := by decide +kernel
theorem dL_isTold_795 : decode cL_isTold 795 = .ok (.aload_n 0, 1) := by decide +kernel
theorem dL_isTold_796 : decode cL_isTold 796 = .ok (.invokevirtual 127, 3) := by decide +kernel
theorem dL_isTold_799 : decode cL_isTold 799 = .ok (.iconst 1, 1) := by decide +kernel
theorem dL_isTold_800 : decode cL_isTold 800 = .ok (.iadd, 1) := by decide +kernel
theorem dL_isTold_801 : decode cL_isTold 801 = .ok (.iload 7, 2) := by decide +kernel
theorem dL_isTold_803 : decode cL_isTold 803 = .ok (.bipush 60, 2) := by decide +kernel
theorem dL_isTold_805 : decode cL_isTold 805 = .ok (.idiv, 1) := by decide +kernel
theorem dL_isTold_806 : decode cL_isTold 806 = .ok (.bipush 30, 2) := by decide +kernel
theorem dL_isTold_808 : decode cL_isTold 808 = .ok (.irem, 1) := by decide +kernel
theorem dL_isTold_809 : decode cL_isTold 809 = .ok (.iadd, 1) := by decide +kernel
theorem dL_isTold_810 : decode cL_isTold 810 = .ok (.istore 10, 2) := by decide +kernel
theorem dL_isTold_812 : decode cL_isTold 812 = .ok (.aload_n 0, 1) := by decide +kernel
theorem dL_isTold_813 : decode cL_isTold 813 = .ok (.bipush 13, 2) := by decide +kernel
theorem dL_isTold_815 : decode cL_isTold 815 = .ok (.iconst 1, 1) := by decide +kernel
theorem dL_isTold_816 : decode cL_isTold 816 = .ok (.iload 7, 2) := by decide +kernel
theorem dL_isTold_818 : decode cL_isTold 818 = .ok (.bipush 60, 2) := by decide +kernel
theorem dL_isTold_820 : decode cL_isTold 820 = .ok (.irem, 1) := by decide +kernel
theorem dL_isTold_821 : decode cL_isTold 821 = .ok (.iadd, 1) := by decide +kernel
theorem dL_isTold_822 : decode cL_isTold 822 = .ok (.iload 10, 2) := by decide +kernel
theorem dL_isTold_824 : decode cL_isTold 824 = .ok (.iconst 0, 1) := by decide +kernel
theorem dL_isTold_825 : decode cL_isTold 825 = .ok (.iconst 0, 1) := by decide +kernel
theorem dL_isTold_826 : decode cL_isTold 826 = .ok (.invokestatic 123, 3) := by decide +kernel
theorem dL_isTold_829 : decode cL_isTold 829 = .ok (.istore 11, 2) := by decide +kernel
theorem dL_isTold_831 : decode cL_isTold 831 = .ok (.iload 11, 2) := by decide +kernel
theorem dL_isTold_833 : decode cL_isTold 833 = .ok (.iload 10, 2) := by decide +kernel
theorem dL_isTold_835 : decode cL_isTold 835 = .ok (.sipush 5000, 3) := by decide +kernel
theorem dL_isTold_838 : decode cL_isTold 838 = .ok (.if_icmp .le 8, 3) := by decide +kernel
theorem dL_isTold_841 : decode cL_isTold 841 = .ok (.ldc 111, 2) := by decide +kernel
theorem dL_isTold_843 : decode cL_isTold 843 = .ok (.goto 16, 3) := by decide +kernel
theorem dL_isTold_846 : decode cL_isTold 846 = .ok (.iload 9, 2) := by decide +kernel
theorem dL_isTold_848 : decode cL_isTold 848 = .ok (.bipush 20, 2) := by decide +kernel
theorem dL_isTold_850 : decode cL_isTold 850 = .ok (.if_icmp .ne 8, 3) := by decide +kernel
theorem dL_isTold_853 : decode cL_isTold 853 = .ok (.ldc 114, 2) := by decide +kernel
theorem dL_isTold_855 : decode cL_isTold 855 = .ok (.goto 4, 3) := by decide +kernel
theorem dL_isTold_858 : decode cL_isTold 858 = .ok (.iconst 0, 1) := by decide +kernel
theorem dL_isTold_859 : decode cL_isTold 859 = .ok (.if_icmp .ne 28, 3) := by decide +kernel
theorem dL_isTold_862 : decode cL_isTold 862 = .ok (.aload_n 0, 1) := by decide +kernel
theorem dL_isTold_863 : decode cL_isTold 863 = .ok (.iconst 4, 1) := by decide +kernel
theorem dL_isTold_864 : decode cL_isTold 864 = .ok (.invokevirtual 94, 3) := by decide +kernel
theorem dL_isTold_867 : decode cL_isTold 867 = .ok (.iload 9, 2) := by decide +kernel
theorem dL_isTold_869 : decode cL_isTold 869 = .ok (.iload 11, 2) := by decide +kernel
theorem dL_isTold_871 : decode cL_isTold 871 = .ok (.ifCond .ne 7, 3) := by decide +kernel
theorem dL_isTold_874 : decode cL_isTold 874 = .ok (.iconst 1, 1) := by decide +kernel
theorem dL_isTold_875 : decode cL_isTold 875 = .ok (.goto 4, 3) := by decide +kernel
theorem dL_isTold_878 : decode cL_isTold 878 = .ok (.iconst 0, 1) := by decide +kernel
theorem dL_isTold_879 : decode cL_isTold 879 = .ok (.iadd, 1) := by decide +kernel
theorem dL_isTold_880 : decode cL_isTold 880 = .ok (.if_icmp .ne 7, 3) := by decide +kernel
theorem dL_isTold_883 : decode cL_isTold 883 = .ok (.iconst 1, 1) := by decide +kernel
theorem dL_isTold_884 : decode cL_isTold 884 = .ok (.goto 4, 3) := by decide +kernel
theorem dL_isTold_887 : decode cL_isTold 887 = .ok (.iconst 0, 1) := by decide +kernel
theorem dL_isTold_888 : decode cL_isTold 888 = .ok (.ireturn, 1) := by decide +kernel
theorem dL_isTold_889 : decode cL_isTold 889 = .ok (.iload 4, 2) := by decide +kernel
theorem dL_isTold_891 : decode cL_isTold 891 = .ok (.bipush 11, 2) := by decide +kernel
theorem dL_isTold_893 : decode cL_isTold 893 = .ok (.if_icmp .ge 182, 3) := by decide +kernel
theorem dL_isTold_896 : decode cL_isTold 896 = .ok (.iconst 1, 1) := by decide +kernel
theorem dL_isTold_897 : decode cL_isTold 897 = .ok (.iload 7, 2) := by decide +kernel
theorem dL_isTold_899 : decode cL_isTold 899 = .ok (.iload 7, 2) := by decide +kernel
theorem dL_isTold_901 : decode cL_isTold 901 = .ok (.iconst 4, 1) := by decide +kernel
theorem dL_isTold_902 : decode cL_isTold 902 = .ok (.irem, 1) := by decide +kernel
theorem dL_isTold_903 : decode cL_isTold 903 = .ok (.ifCond .ne 8, 3) := by decide +kernel
theorem dL_isTold_906 : decode cL_isTold 906 = .ok (.bipush 60, 2) := by decide +kernel
theorem dL_isTold_908 : decode cL_isTold 908 = .ok (.goto 5, 3) := by decide +kernel
theorem dL_isTold_911 : decode cL_isTold 911 = .ok (.bipush 12, 2) := by decide +kernel
theorem dL_isTold_913 : decode cL_isTold 913 = .ok (.irem, 1) := by decide +kernel
theorem dL_isTold_914 : decode cL_isTold 914 = .ok (.iadd, 1) := by decide +kernel
theorem dL_isTold_915 : decode cL_isTold 915 = .ok (.istore 9, 2) := by decide +kernel
theorem dL_isTold_917 : decode cL_isTold 917 = .ok (.aload_n 0, 1) := by decide +kernel
theorem dL_isTold_918 : decode cL_isTold 918 = .ok (.iconst 3, 1) := by decide +kernel
theorem dL_isTold_919 : decode cL_isTold 919 = .ok (.invokevirtual 94, 3) := by decide +kernel
theorem dL_isTold_922 : decode cL_isTold 922 = .ok (.istore 10, 2) := by decide +kernel
theorem dL_isTold_924 : decode cL_isTold 924 = .ok (.aload_n 0, 1) := by decide +kernel
theorem dL_isTold_925 : decode cL_isTold 925 = .ok (.iconst 2, 1) := by decide +kernel
theorem dL_isTold_926 : decode cL_isTold 926 = .ok (.invokevirtual 94, 3) := by decide +kernel
theorem dL_isTold_929 : decode cL_isTold 929 = .ok (.istore 11, 2) := by decide +kernel
theorem dL_isTold_931 : decode cL_isTold 931 = .ok (.aload_n 0, 1) := by decide +kernel
theorem dL_isTold_932 : decode cL_isTold 932 = .ok (.iload 6, 2) := by decide +kernel
theorem dL_isTold_934 : decode cL_isTold 934 = .ok (.iconst 3, 1) := by decide +kernel
theorem dL_isTold_935 : decode cL_isTold 935 = .ok (.invokevirtual 85, 3) := by decide +kernel
theorem dL_isTold_938 : decode cL_isTold 938 = .ok (.istore 12, 2) := by decide +kernel
theorem dL_isTold_940 : decode cL_isTold 940 = .ok (.aload_n 0, 1) := by decide +kernel
theorem dL_isTold_941 : decode cL_isTold 941 = .ok (.iload 6, 2) := by decide +kernel
theorem dL_isTold_943 : decode cL_isTold 943 = .ok (.iconst 2, 1) := by decide +kernel
theorem dL_isTold_944 : decode cL_isTold 944 = .ok (.invokevirtual 85, 3) := by decide +kernel
theorem dL_isTold_947 : decode cL_isTold 947 = .ok (.istore 13, 2) := by decide +kernel
theorem dL_isTold_949 : decode cL_isTold 949 = .ok (.iload 8, 2) := by decide +kernel
theorem dL_isTold_951 : decode cL_isTold 951 = .ok (.ifCond .ne 24, 3) := by decide +kernel
theorem dL_isTold_954 : decode cL_isTold 954 = .ok (.iload 9, 2) := by decide +kernel
theorem dL_isTold_956 : decode cL_isTold 956 = .ok (.iload 11, 2) := by decide +kernel
theorem dL_isTold_958 : decode cL_isTold 958 = .ok (.if_icmp .gt 17, 3) := by decide +kernel
theorem dL_isTold_961 : decode cL_isTold 961 = .ok (.iload 9, 2) := by decide +kernel
theorem dL_isTold_963 : decode cL_isTold 963 = .ok (.iload 10, 2) := by decide +kernel
theorem dL_isTold_965 : decode cL_isTold 965 = .ok (.imul, 1) := by decide +kernel
theorem dL_isTold_966 : decode cL_isTold 966 = .ok (.iload 12, 2) := by decide +kernel
theorem dL_isTold_968 : decode cL_isTold 968 = .ok (.if_icmp .gt 7, 3) := by decide +kernel
theorem dL_isTold_971 : decode cL_isTold 971 = .ok (.iconst 1, 1) := by decide +kernel
theorem dL_isTold_972 : decode cL_isTold 972 = .ok (.goto 4, 3) := by decide +kernel
theorem dL_isTold_975 : decode cL_isTold 975 = .ok (.iconst 0, 1) := by decide +kernel
theorem dL_isTold_976 : decode cL_isTold 976 = .ok (.istore 14, 2) := by decide +kernel
theorem dL_isTold_978 : decode cL_isTold 978 = .ok (.aload_n 0, 1) := by decide +kernel
theorem dL_isTold_979 : decode cL_isTold 979 = .ok (.bipush 14, 2) := by decide +kernel
theorem dL_isTold_981 : decode cL_isTold 981 = .ok (.iload 6, 2) := by decide +kernel
theorem dL_isTold_983 : decode cL_isTold 983 = .ok (.iload 9, 2) := by decide +kernel
theorem dL_isTold_985 : decode cL_isTold 985 = .ok (.iconst 0, 1) := by decide +kernel
theorem dL_isTold_986 : decode cL_isTold 986 = .ok (.iconst 0, 1) := by decide +kernel
theorem dL_isTold_987 : decode cL_isTold 987 = .ok (.invokestatic 123, 3) := by decide +kernel
theorem dL_isTold_990 : decode cL_isTold 990 = .ok (.iload 14, 2) := by decide +kernel
theorem dL_isTold_992 : decode cL_isTold 992 = .ok (.ifCond .eq 11, 3) := by decide +kernel
theorem dL_isTold_995 : decode cL_isTold 995 = .ok (.iload 9, 2) := by decide +kernel
theorem dL_isTold_997 : decode cL_isTold 997 = .ok (.iload 10, 2) := by decide +kernel
theorem dL_isTold_999 : decode cL_isTold 999 = .ok (.imul, 1) := by decide +kernel
theorem dL_isTold_1000 : decode cL_isTold 1000 = .ok (.goto 5, 3) := by decide +kernel
theorem dL_isTold_1003 : decode cL_isTold 1003 = .ok (.ldc 114, 2) := by decide +kernel
theorem dL_isTold_1005 : decode cL_isTold 1005 = .ok (.if_icmp .ne 68, 3) := by decide +kernel
theorem dL_isTold_1008 : decode cL_isTold 1008 = .ok (.iload 14, 2) := by decide +kernel
theorem dL_isTold_1010 : decode cL_isTold 1010 = .ok (.ifCond .eq 59, 3) := by decide +kernel
theorem dL_isTold_1013 : decode cL_isTold 1013 = .ok (.aload_n 0, 1) := by decide +kernel
theorem dL_isTold_1014 : decode cL_isTold 1014 = .ok (.iconst 2, 1) := by decide +kernel
theorem dL_isTold_1015 : decode cL_isTold 1015 = .ok (.invokevirtual 94, 3) := by decide +kernel
theorem dL_isTold_1018 : decode cL_isTold 1018 = .ok (.iload 11, 2) := by decide +kernel
theorem dL_isTold_1020 : decode cL_isTold 1020 = .ok (.iload 9, 2) := by decide +kernel
theorem dL_isTold_1022 : decode cL_isTold 1022 = .ok (.isub, 1) := by decide +kernel
theorem dL_isTold_1023 : decode cL_isTold 1023 = .ok (.if_icmp .ne 50, 3) := by decide +kernel
theorem dL_isTold_1026 : decode cL_isTold 1026 = .ok (.aload_n 0, 1) := by decide +kernel
theorem dL_isTold_1027 : decode cL_isTold 1027 = .ok (.iload 6, 2) := by decide +kernel
theorem dL_isTold_1029 : decode cL_isTold 1029 = .ok (.iconst 2, 1) := by decide +kernel
theorem dL_isTold_1030 : decode cL_isTold 1030 = .ok (.invokevirtual 85, 3) := by decide +kernel
theorem dL_isTold_1033 : decode cL_isTold 1033 = .ok (.iload 13, 2) := by decide +kernel
theorem dL_isTold_1035 : decode cL_isTold 1035 = .ok (.iload 9, 2) := by decide +kernel
theorem dL_isTold_1037 : decode cL_isTold 1037 = .ok (.iadd, 1) := by decide +kernel
theorem dL_isTold_1038 : decode cL_isTold 1038 = .ok (.if_icmp .ne 35, 3) := by decide +kernel
theorem dL_isTold_1041 : decode cL_isTold 1041 = .ok (.aload_n 0, 1) := by decide +kernel
theorem dL_isTold_1042 : decode cL_isTold 1042 = .ok (.iload 6, 2) := by decide +kernel
theorem dL_isTold_1044 : decode cL_isTold 1044 = .ok (.iconst 3, 1) := by decide +kernel
theorem dL_isTold_1045 : decode cL_isTold 1045 = .ok (.invokevirtual 85, 3) := by decide +kernel
theorem dL_isTold_1048 : decode cL_isTold 1048 = .ok (.iload 12, 2) := by decide +kernel
theorem dL_isTold_1050 : decode cL_isTold 1050 = .ok (.iload 9, 2) := by decide +kernel
theorem dL_isTold_1052 : decode cL_isTold 1052 = .ok (.iload 10, 2) := by decide +kernel
theorem dL_isTold_1054 : decode cL_isTold 1054 = .ok (.imul, 1) := by decide +kernel
theorem dL_isTold_1055 : decode cL_isTold 1055 = .ok (.isub, 1) := by decide +kernel
theorem dL_isTold_1056 : decode cL_isTold 1056 = .ok (.if_icmp .ne 17, 3) := by decide +kernel
theorem dL_isTold_1059 : decode cL_isTold 1059 = .ok (.aload_n 0, 1) := by decide +kernel
theorem dL_isTold_1060 : decode cL_isTold 1060 = .ok (.iconst 3, 1) := by decide +kernel
theorem dL_isTold_1061 : decode cL_isTold 1061 = .ok (.invokevirtual 94, 3) := by decide +kernel
theorem dL_isTold_1064 : decode cL_isTold 1064 = .ok (.iload 10, 2) := by decide +kernel
theorem dL_isTold_1066 : decode cL_isTold 1066 = .ok (.if_icmp .lt 7, 3) := by decide +kernel
theorem dL_isTold_1069 : decode cL_isTold 1069 = .ok (.iconst 1, 1) := by decide +kernel
theorem dL_isTold_1070 : decode cL_isTold 1070 = .ok (.goto 4, 3) := by decide +kernel
theorem dL_isTold_1073 : decode cL_isTold 1073 = .ok (.iconst 0, 1) := by decide +kernel
theorem dL_isTold_1074 : decode cL_isTold 1074 = .ok (.ireturn, 1) := by decide +kernel
theorem dL_isTold_1075 : decode cL_isTold 1075 = .ok (.iload 4, 2) := by decide +kernel
theorem dL_isTold_1077 : decode cL_isTold 1077 = .ok (.bipush 11, 2) := by decide +kernel
theorem dL_isTold_1079 : decode cL_isTold 1079 = .ok (.if_icmp .ne 48, 3) := by decide +kernel
theorem dL_isTold_1082 : decode cL_isTold 1082 = .ok (.iconst 1, 1) := by decide +kernel
theorem dL_isTold_1083 : decode cL_isTold 1083 = .ok (.iload 7, 2) := by decide +kernel
theorem dL_isTold_1085 : decode cL_isTold 1085 = .ok (.bipush 100, 2) := by decide +kernel
theorem dL_isTold_1087 : decode cL_isTold 1087 = .ok (.irem, 1) := by decide +kernel
theorem dL_isTold_1088 : decode cL_isTold 1088 = .ok (.iadd, 1) := by decide +kernel
theorem dL_isTold_1089 : decode cL_isTold 1089 = .ok (.istore 9, 2) := by decide +kernel
theorem dL_isTold_1091 : decode cL_isTold 1091 = .ok (.aload_n 0, 1) := by decide +kernel
theorem dL_isTold_1092 : decode cL_isTold 1092 = .ok (.bipush 12, 2) := by decide +kernel
theorem dL_isTold_1094 : decode cL_isTold 1094 = .ok (.iload 9, 2) := by decide +kernel
theorem dL_isTold_1096 : decode cL_isTold 1096 = .ok (.iconst 0, 1) := by decide +kernel
theorem dL_isTold_1097 : decode cL_isTold 1097 = .ok (.iconst 0, 1) := by decide +kernel
theorem dL_isTold_1098 : decode cL_isTold 1098 = .ok (.iconst 0, 1) := by decide +kernel
theorem dL_isTold_1099 : decode cL_isTold 1099 = .ok (.invokestatic 123, 3) := by decide +kernel
theorem dL_isTold_1102 : decode cL_isTold 1102 = .ok (.ifCond .le 23, 3) := by decide +kernel
theorem dL_isTold_1105 : decode cL_isTold 1105 = .ok (.aload_n 0, 1) := by decide +kernel
theorem dL_isTold_1106 : decode cL_isTold 1106 = .ok (.bipush 12, 2) := by decide +kernel
theorem dL_isTold_1108 : decode cL_isTold 1108 = .ok (.iload 9, 2) := by decide +kernel
theorem dL_isTold_1110 : decode cL_isTold 1110 = .ok (.iconst 0, 1) := by decide +kernel
theorem dL_isTold_1111 : decode cL_isTold 1111 = .ok (.iconst 0, 1) := by decide +kernel
theorem dL_isTold_1112 : decode cL_isTold 1112 = .ok (.iconst 0, 1) := by decide +kernel
theorem dL_isTold_1113 : decode cL_isTold 1113 = .ok (.invokestatic 123, 3) := by decide +kernel
theorem dL_isTold_1116 : decode cL_isTold 1116 = .ok (.iload 9, 2) := by decide +kernel
theorem dL_isTold_1118 : decode cL_isTold 1118 = .ok (.if_icmp .ne 7, 3) := by decide +kernel
theorem dL_isTold_1121 : decode cL_isTold 1121 = .ok (.iconst 1, 1) := by decide +kernel
theorem dL_isTold_1122 : decode cL_isTold 1122 = .ok (.goto 4, 3) := by decide +kernel
theorem dL_isTold_1125 : decode cL_isTold 1125 = .ok (.iconst 0, 1) := by decide +kernel
theorem dL_isTold_1126 : decode cL_isTold 1126 = .ok (.ireturn, 1) := by decide +kernel
theorem dL_isTold_1127 : decode cL_isTold 1127 = .ok (.iload 7, 2) := by decide +kernel
theorem dL_isTold_1129 : decode cL_isTold 1129 = .ok (.bipush 40, 2) := by decide +kernel
theorem dL_isTold_1131 : decode cL_isTold 1131 = .ok (.irem, 1) := by decide +kernel
theorem dL_isTold_1132 : decode cL_isTold 1132 = .ok (.istore 9, 2) := by decide +kernel
theorem dL_isTold_1134 : decode cL_isTold 1134 = .ok (.iload 4, 2) := by decide +kernel
theorem dL_isTold_1136 : decode cL_isTold 1136 = .ok (.bipush 12, 2) := by decide +kernel
theorem dL_isTold_1138 : decode cL_isTold 1138 = .ok (.if_icmp .ne 57, 3) := by decide +kernel
theorem dL_isTold_1141 : decode cL_isTold 1141 = .ok (.aload_n 0, 1) := by decide +kernel
theorem dL_isTold_1142 : decode cL_isTold 1142 = .ok (.iload 9, 2) := by decide +kernel
theorem dL_isTold_1144 : decode cL_isTold 1144 = .ok (.invokevirtual 97, 3) := by decide +kernel
theorem dL_isTold_1147 : decode cL_isTold 1147 = .ok (.istore 10, 2) := by decide +kernel
theorem dL_isTold_1149 : decode cL_isTold 1149 = .ok (.aload_n 0, 1) := by decide +kernel
theorem dL_isTold_1150 : decode cL_isTold 1150 = .ok (.bipush 19, 2) := by decide +kernel
theorem dL_isTold_1152 : decode cL_isTold 1152 = .ok (.iload 9, 2) := by decide +kernel
theorem dL_isTold_1154 : decode cL_isTold 1154 = .ok (.iload 7, 2) := by decide +kernel
theorem dL_isTold_1156 : decode cL_isTold 1156 = .ok (.bipush 40, 2) := by decide +kernel
theorem dL_isTold_1158 : decode cL_isTold 1158 = .ok (.idiv, 1) := by decide +kernel
theorem dL_isTold_1159 : decode cL_isTold 1159 = .ok (.bipush 101, 2) := by decide +kernel
theorem dL_isTold_1161 : decode cL_isTold 1161 = .ok (.irem, 1) := by decide +kernel
theorem dL_isTold_1162 : decode cL_isTold 1162 = .ok (.iconst 0, 1) := by decide +kernel
theorem dL_isTold_1163 : decode cL_isTold 1163 = .ok (.iconst 0, 1) := by decide +kernel
theorem dL_isTold_1164 : decode cL_isTold 1164 = .ok (.invokestatic 123, 3) := by decide +kernel
theorem dL_isTold_1167 : decode cL_isTold 1167 = .ok (.iload 10, 2) := by decide +kernel
theorem dL_isTold_1169 : decode cL_isTold 1169 = .ok (.if_icmp .ne 24, 3) := by decide +kernel
theorem dL_isTold_1172 : decode cL_isTold 1172 = .ok (.aload_n 0, 1) := by decide +kernel
theorem dL_isTold_1173 : decode cL_isTold 1173 = .ok (.iload 9, 2) := by decide +kernel
theorem dL_isTold_1175 : decode cL_isTold 1175 = .ok (.invokevirtual 97, 3) := by decide +kernel
theorem dL_isTold_1178 : decode cL_isTold 1178 = .ok (.iload 7, 2) := by decide +kernel
theorem dL_isTold_1180 : decode cL_isTold 1180 = .ok (.bipush 40, 2) := by decide +kernel
theorem dL_isTold_1182 : decode cL_isTold 1182 = .ok (.idiv, 1) := by decide +kernel
theorem dL_isTold_1183 : decode cL_isTold 1183 = .ok (.bipush 101, 2) := by decide +kernel
theorem dL_isTold_1185 : decode cL_isTold 1185 = .ok (.irem, 1) := by decide +kernel
theorem dL_isTold_1186 : decode cL_isTold 1186 = .ok (.if_icmp .ne 7, 3) := by decide +kernel
theorem dL_isTold_1189 : decode cL_isTold 1189 = .ok (.iconst 1, 1) := by decide +kernel
theorem dL_isTold_1190 : decode cL_isTold 1190 = .ok (.goto 4, 3) := by decide +kernel
theorem dL_isTold_1193 : decode cL_isTold 1193 = .ok (.iconst 0, 1) := by decide +kernel
theorem dL_isTold_1194 : decode cL_isTold 1194 = .ok (.ireturn, 1) := by decide +kernel
theorem dL_isTold_1195 : decode cL_isTold 1195 = .ok (.iload 7, 2) := by decide +kernel
theorem dL_isTold_1197 : decode cL_isTold 1197 = .ok (.bipush 40, 2) := by decide +kernel
theorem dL_isTold_1199 : decode cL_isTold 1199 = .ok (.idiv, 1) := by decide +kernel
theorem dL_isTold_1200 : decode cL_isTold 1200 = .ok (.iload 7, 2) := by decide +kernel
theorem dL_isTold_1202 : decode cL_isTold 1202 = .ok (.iconst 3, 1) := by decide +kernel
theorem dL_isTold_1203 : decode cL_isTold 1203 = .ok (.irem, 1) := by decide +kernel
theorem dL_isTold_1204 : decode cL_isTold 1204 = .ok (.ifCond .ne 8, 3) := by decide +kernel
theorem dL_isTold_1207 : decode cL_isTold 1207 = .ok (.ldc 145, 2) := by decide +kernel
theorem dL_isTold_1209 : decode cL_isTold 1209 = .ok (.goto 6, 3) := by decide +kernel
theorem dL_isTold_1212 : decode cL_isTold 1212 = .ok (.sipush 900, 3) := by decide +kernel
theorem dL_isTold_1215 : decode cL_isTold 1215 = .ok (.irem, 1) := by decide +kernel
theorem dL_isTold_1216 : decode cL_isTold 1216 = .ok (.istore 10, 2) := by decide +kernel
theorem dL_isTold_1218 : decode cL_isTold 1218 = .ok (.aload_n 0, 1) := by decide +kernel
theorem dL_isTold_1219 : decode cL_isTold 1219 = .ok (.iconst 0, 1) := by decide +kernel
theorem dL_isTold_1220 : decode cL_isTold 1220 = .ok (.iload 9, 2) := by decide +kernel
theorem dL_isTold_1222 : decode cL_isTold 1222 = .ok (.iload 10, 2) := by decide +kernel
theorem dL_isTold_1224 : decode cL_isTold 1224 = .ok (.iload 7, 2) := by decide +kernel
theorem dL_isTold_1226 : decode cL_isTold 1226 = .ok (.bipush 7, 2) := by decide +kernel
theorem dL_isTold_1228 : decode cL_isTold 1228 = .ok (.idiv, 1) := by decide +kernel
theorem dL_isTold_1229 : decode cL_isTold 1229 = .ok (.bipush 10, 2) := by decide +kernel
theorem dL_isTold_1231 : decode cL_isTold 1231 = .ok (.irem, 1) := by decide +kernel
theorem dL_isTold_1232 : decode cL_isTold 1232 = .ok (.iconst 0, 1) := by decide +kernel
theorem dL_isTold_1233 : decode cL_isTold 1233 = .ok (.invokestatic 123, 3) := by decide +kernel
theorem dL_isTold_1236 : decode cL_isTold 1236 = .ok (.istore 11, 2) := by decide +kernel
theorem dL_isTold_1238 : decode cL_isTold 1238 = .ok (.aload_n 0, 1) := by decide +kernel
theorem dL_isTold_1239 : decode cL_isTold 1239 = .ok (.invokevirtual 127, 3) := by decide +kernel
theorem dL_isTold_1242 : decode cL_isTold 1242 = .ok (.ifCond .gt 10, 3) := by decide +kernel
theorem dL_isTold_1245 : decode cL_isTold 1245 = .ok (.aload_n 1, 1) := by decide +kernel
theorem dL_isTold_1246 : decode cL_isTold 1246 = .ok (.iconst 4, 1) := by decide +kernel
theorem dL_isTold_1247 : decode cL_isTold 1247 = .ok (.iaload, 1) := by decide +kernel
theorem dL_isTold_1248 : decode cL_isTold 1248 = .ok (.iconst 1, 1) := by decide +kernel
theorem dL_isTold_1249 : decode cL_isTold 1249 = .ok (.if_icmp .ne 16, 3) := by decide +kernel
theorem dL_isTold_1252 : decode cL_isTold 1252 = .ok (.iload 11, 2) := by decide +kernel
theorem dL_isTold_1254 : decode cL_isTold 1254 = .ok (.ldc 114, 2) := by decide +kernel
theorem dL_isTold_1256 : decode cL_isTold 1256 = .ok (.if_icmp .ne 7, 3) := by decide +kernel
theorem dL_isTold_1259 : decode cL_isTold 1259 = .ok (.iconst 1, 1) := by decide +kernel
theorem dL_isTold_1260 : decode cL_isTold 1260 = .ok (.goto 4, 3) := by decide +kernel
theorem dL_isTold_1263 : decode cL_isTold 1263 = .ok (.iconst 0, 1) := by decide +kernel
theorem dL_isTold_1264 : decode cL_isTold 1264 = .ok (.ireturn, 1) := by decide +kernel
theorem dL_isTold_1265 : decode cL_isTold 1265 = .ok (.aload_n 1, 1) := by decide +kernel
theorem dL_isTold_1266 : decode cL_isTold 1266 = .ok (.iconst 3, 1) := by decide +kernel
theorem dL_isTold_1267 : decode cL_isTold 1267 = .ok (.dup2, 1) := by decide +kernel
theorem dL_isTold_1268 : decode cL_isTold 1268 = .ok (.iaload, 1) := by decide +kernel
theorem dL_isTold_1269 : decode cL_isTold 1269 = .ok (.iload 10, 2) := by decide +kernel
theorem dL_isTold_1271 : decode cL_isTold 1271 = .ok (.iload 11, 2) := by decide +kernel
theorem dL_isTold_1273 : decode cL_isTold 1273 = .ok (.isub, 1) := by decide +kernel
theorem dL_isTold_1274 : decode cL_isTold 1274 = .ok (.iadd, 1) := by decide +kernel
theorem dL_isTold_1275 : decode cL_isTold 1275 = .ok (.iastore, 1) := by decide +kernel
theorem dL_isTold_1276 : decode cL_isTold 1276 = .ok (.iload 11, 2) := by decide +kernel
theorem dL_isTold_1278 : decode cL_isTold 1278 = .ok (.ifCond .lt 21, 3) := by decide +kernel
theorem dL_isTold_1281 : decode cL_isTold 1281 = .ok (.aload_n 0, 1) := by decide +kernel
theorem dL_isTold_1282 : decode cL_isTold 1282 = .ok (.iload 9, 2) := by decide +kernel
theorem dL_isTold_1284 : decode cL_isTold 1284 = .ok (.invokevirtual 39, 3) := by decide +kernel
theorem dL_isTold_1287 : decode cL_isTold 1287 = .ok (.iload 10, 2) := by decide +kernel
theorem dL_isTold_1289 : decode cL_isTold 1289 = .ok (.bipush 100, 2) := by decide +kernel
theorem dL_isTold_1291 : decode cL_isTold 1291 = .ok (.idiv, 1) := by decide +kernel
theorem dL_isTold_1292 : decode cL_isTold 1292 = .ok (.if_icmp .ne 7, 3) := by decide +kernel
theorem dL_isTold_1295 : decode cL_isTold 1295 = .ok (.iconst 1, 1) := by decide +kernel
theorem dL_isTold_1296 : decode cL_isTold 1296 = .ok (.goto 4, 3) := by decide +kernel
theorem dL_isTold_1299 : decode cL_isTold 1299 = .ok (.iconst 0, 1) := by decide +kernel
theorem dL_isTold_1300 : decode cL_isTold 1300 = .ok (.ireturn, 1) := by decide +kernel
