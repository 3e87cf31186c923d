/-! what the bytes of the law say: areRight -/
theorem dL_areRight_0 : decode cL_areRight 0 = .ok (.iconst 1, 1) := by decide +kernel
theorem dL_areRight_1 : decode cL_areRight 1 = .ok (.istore 7, 2) := by decide +kernel
theorem dL_areRight_3 : decode cL_areRight 3 = .ok (.bipush 42, 2) := by decide +kernel
theorem dL_areRight_5 : decode cL_areRight 5 = .ok (.newarray .int, 2) := by decide +kernel
theorem dL_areRight_7 : decode cL_areRight 7 = .ok (.astore 8, 2) := by decide +kernel
theorem dL_areRight_9 : decode cL_areRight 9 = .ok (.iconst 0, 1) := by decide +kernel
theorem dL_areRight_10 : decode cL_areRight 10 = .ok (.istore 9, 2) := by decide +kernel
theorem dL_areRight_12 : decode cL_areRight 12 = .ok (.iload 9, 2) := by decide +kernel
theorem dL_areRight_14 : decode cL_areRight 14 = .ok (.iload_n 2, 1) := by decide +kernel
theorem dL_areRight_15 : decode cL_areRight 15 = .ok (.if_icmp .ge 35, 3) := by decide +kernel
theorem dL_areRight_18 : decode cL_areRight 18 = .ok (.aload 8, 2) := by decide +kernel
theorem dL_areRight_20 : decode cL_areRight 20 = .ok (.bipush 7, 2) := by decide +kernel
theorem dL_areRight_22 : decode cL_areRight 22 = .ok (.aload_n 3, 1) := by decide +kernel
theorem dL_areRight_23 : decode cL_areRight 23 = .ok (.iload 9, 2) := by decide +kernel
theorem dL_areRight_25 : decode cL_areRight 25 = .ok (.iaload, 1) := by decide +kernel
theorem dL_areRight_26 : decode cL_areRight 26 = .ok (.imul, 1) := by decide +kernel
theorem dL_areRight_27 : decode cL_areRight 27 = .ok (.aload 4, 2) := by decide +kernel
theorem dL_areRight_29 : decode cL_areRight 29 = .ok (.iload 9, 2) := by decide +kernel
theorem dL_areRight_31 : decode cL_areRight 31 = .ok (.iaload, 1) := by decide +kernel
theorem dL_areRight_32 : decode cL_areRight 32 = .ok (.iadd, 1) := by decide +kernel
theorem dL_areRight_33 : decode cL_areRight 33 = .ok (.dup2, 1) := by decide +kernel
theorem dL_areRight_34 : decode cL_areRight 34 = .ok (.iaload, 1) := by decide +kernel
theorem dL_areRight_35 : decode cL_areRight 35 = .ok (.aload_n 0, 1) := by decide +kernel
theorem dL_areRight_36 : decode cL_areRight 36 = .ok (.iload 9, 2) := by decide +kernel
theorem dL_areRight_38 : decode cL_areRight 38 = .ok (.iload_n 1, 1) := by decide +kernel
theorem dL_areRight_39 : decode cL_areRight 39 = .ok (.invokestatic 176, 3) := by decide +kernel
theorem dL_areRight_42 : decode cL_areRight 42 = .ok (.iadd, 1) := by decide +kernel
theorem dL_areRight_43 : decode cL_areRight 43 = .ok (.iastore, 1) := by decide +kernel
theorem dL_areRight_44 : decode cL_areRight 44 = .ok (.iinc 9 1, 3) := by decide +kernel
theorem dL_areRight_47 : decode cL_areRight 47 = .ok (.goto (-35), 3) := by decide +kernel
theorem dL_areRight_50 : decode cL_areRight 50 = .ok (.iconst 0, 1) := by decide +kernel
theorem dL_areRight_51 : decode cL_areRight 51 = .ok (.istore 9, 2) := by decide +kernel
theorem dL_areRight_53 : decode cL_areRight 53 = .ok (.iload 9, 2) := by decide +kernel
theorem dL_areRight_55 : decode cL_areRight 55 = .ok (.bipush 42, 2) := by decide +kernel
theorem dL_areRight_57 : decode cL_areRight 57 = .ok (.if_icmp .ge 28, 3) := by decide +kernel
theorem dL_areRight_60 : decode cL_areRight 60 = .ok (.iload 7, 2) := by decide +kernel
theorem dL_areRight_62 : decode cL_areRight 62 = .ok (.aload 8, 2) := by decide +kernel
theorem dL_areRight_64 : decode cL_areRight 64 = .ok (.iload 9, 2) := by decide +kernel
theorem dL_areRight_66 : decode cL_areRight 66 = .ok (.iaload, 1) := by decide +kernel
theorem dL_areRight_67 : decode cL_areRight 67 = .ok (.iconst 1, 1) := by decide +kernel
theorem dL_areRight_68 : decode cL_areRight 68 = .ok (.if_icmp .gt 7, 3) := by decide +kernel
theorem dL_areRight_71 : decode cL_areRight 71 = .ok (.iconst 1, 1) := by decide +kernel
theorem dL_areRight_72 : decode cL_areRight 72 = .ok (.goto 4, 3) := by decide +kernel
theorem dL_areRight_75 : decode cL_areRight 75 = .ok (.iconst 0, 1) := by decide +kernel
theorem dL_areRight_76 : decode cL_areRight 76 = .ok (.iand, 1) := by decide +kernel
theorem dL_areRight_77 : decode cL_areRight 77 = .ok (.istore 7, 2) := by decide +kernel
theorem dL_areRight_79 : decode cL_areRight 79 = .ok (.iinc 9 1, 3) := by decide +kernel
theorem dL_areRight_82 : decode cL_areRight 82 = .ok (.goto (-29), 3) := by decide +kernel
theorem dL_areRight_85 : decode cL_areRight 85 = .ok (.iconst 0, 1) := by decide +kernel
theorem dL_areRight_86 : decode cL_areRight 86 = .ok (.istore 9, 2) := by decide +kernel
theorem dL_areRight_88 : decode cL_areRight 88 = .ok (.iload 9, 2) := by decide +kernel
theorem dL_areRight_90 : decode cL_areRight 90 = .ok (.bipush 6, 2) := by decide +kernel
theorem dL_areRight_92 : decode cL_areRight 92 = .ok (.if_icmp .ge 615, 3) := by decide +kernel
theorem dL_areRight_95 : decode cL_areRight 95 = .ok (.iload 7, 2) := by decide +kernel
theorem dL_areRight_97 : decode cL_areRight 97 = .ok (.ifCond .eq 610, 3) := by decide +kernel
theorem dL_areRight_100 : decode cL_areRight 100 = .ok (.iconst 0, 1) := by decide +kernel
theorem dL_areRight_101 : decode cL_areRight 101 = .ok (.istore 10, 2) := by decide +kernel
theorem dL_areRight_103 : decode cL_areRight 103 = .ok (.iconst 1, 1) := by decide +kernel
theorem dL_areRight_104 : decode cL_areRight 104 = .ok (.istore 11, 2) := by decide +kernel
theorem dL_areRight_106 : decode cL_areRight 106 = .ok (.iconst 0, 1) := by decide +kernel
theorem dL_areRight_107 : decode cL_areRight 107 = .ok (.istore 12, 2) := by decide +kernel
theorem dL_areRight_109 : decode cL_areRight 109 = .ok (.iload 12, 2) := by decide +kernel
theorem dL_areRight_111 : decode cL_areRight 111 = .ok (.iload_n 2, 1) := by decide +kernel
theorem dL_areRight_112 : decode cL_areRight 112 = .ok (.if_icmp .ge 115, 3) := by decide +kernel
theorem dL_areRight_115 : decode cL_areRight 115 = .ok (.aload_n 3, 1) := by decide +kernel
theorem dL_areRight_116 : decode cL_areRight 116 = .ok (.iload 12, 2) := by decide +kernel
theorem dL_areRight_118 : decode cL_areRight 118 = .ok (.iaload, 1) := by decide +kernel
theorem dL_areRight_119 : decode cL_areRight 119 = .ok (.iload 9, 2) := by decide +kernel
theorem dL_areRight_121 : decode cL_areRight 121 = .ok (.if_icmp .ne 18, 3) := by decide +kernel
theorem dL_areRight_124 : decode cL_areRight 124 = .ok (.aload_n 0, 1) := by decide +kernel
theorem dL_areRight_125 : decode cL_areRight 125 = .ok (.iload 12, 2) := by decide +kernel
theorem dL_areRight_127 : decode cL_areRight 127 = .ok (.iload_n 1, 1) := by decide +kernel
theorem dL_areRight_128 : decode cL_areRight 128 = .ok (.invokestatic 176, 3) := by decide +kernel
theorem dL_areRight_131 : decode cL_areRight 131 = .ok (.iconst 1, 1) := by decide +kernel
theorem dL_areRight_132 : decode cL_areRight 132 = .ok (.if_icmp .ne 7, 3) := by decide +kernel
theorem dL_areRight_135 : decode cL_areRight 135 = .ok (.iconst 1, 1) := by decide +kernel
theorem dL_areRight_136 : decode cL_areRight 136 = .ok (.goto 4, 3) := by decide +kernel
theorem dL_areRight_139 : decode cL_areRight 139 = .ok (.iconst 0, 1) := by decide +kernel
theorem dL_areRight_140 : decode cL_areRight 140 = .ok (.istore 13, 2) := by decide +kernel
theorem dL_areRight_142 : decode cL_areRight 142 = .ok (.iload 10, 2) := by decide +kernel
theorem dL_areRight_144 : decode cL_areRight 144 = .ok (.iload 13, 2) := by decide +kernel
theorem dL_areRight_146 : decode cL_areRight 146 = .ok (.ifCond .eq 7, 3) := by decide +kernel
theorem dL_areRight_149 : decode cL_areRight 149 = .ok (.iconst 1, 1) := by decide +kernel
theorem dL_areRight_150 : decode cL_areRight 150 = .ok (.goto 4, 3) := by decide +kernel
theorem dL_areRight_153 : decode cL_areRight 153 = .ok (.iconst 0, 1) := by decide +kernel
theorem dL_areRight_154 : decode cL_areRight 154 = .ok (.iadd, 1) := by decide +kernel
theorem dL_areRight_155 : decode cL_areRight 155 = .ok (.istore 10, 2) := by decide +kernel
theorem dL_areRight_157 : decode cL_areRight 157 = .ok (.iload 11, 2) := by decide +kernel
theorem dL_areRight_159 : decode cL_areRight 159 = .ok (.iload 13, 2) := by decide +kernel
theorem dL_areRight_161 : decode cL_areRight 161 = .ok (.ifCond .eq 17, 3) := by decide +kernel
theorem dL_areRight_164 : decode cL_areRight 164 = .ok (.aload_n 0, 1) := by decide +kernel
theorem dL_areRight_165 : decode cL_areRight 165 = .ok (.aload 5, 2) := by decide +kernel
theorem dL_areRight_167 : decode cL_areRight 167 = .ok (.iload 12, 2) := by decide +kernel
theorem dL_areRight_169 : decode cL_areRight 169 = .ok (.iaload, 1) := by decide +kernel
theorem dL_areRight_170 : decode cL_areRight 170 = .ok (.invokestatic 230, 3) := by decide +kernel
theorem dL_areRight_173 : decode cL_areRight 173 = .ok (.bipush 112, 2) := by decide +kernel
theorem dL_areRight_175 : decode cL_areRight 175 = .ok (.if_icmp .eq 7, 3) := by decide +kernel
theorem dL_areRight_178 : decode cL_areRight 178 = .ok (.iconst 1, 1) := by decide +kernel
theorem dL_areRight_179 : decode cL_areRight 179 = .ok (.goto 4, 3) := by decide +kernel
theorem dL_areRight_182 : decode cL_areRight 182 = .ok (.iconst 0, 1) := by decide +kernel
theorem dL_areRight_183 : decode cL_areRight 183 = .ok (.iand, 1) := by decide +kernel
theorem dL_areRight_184 : decode cL_areRight 184 = .ok (.istore 11, 2) := by decide +kernel
theorem dL_areRight_186 : decode cL_areRight 186 = .ok (.iload 7, 2) := by decide +kernel
theorem dL_areRight_188 : decode cL_areRight 188 = .ok (.iload 13, 2) := by decide +kernel
theorem dL_areRight_190 : decode cL_areRight 190 = .ok (.ifCond .eq 23, 3) := by decide +kernel
theorem dL_areRight_193 : decode cL_areRight 193 = .ok (.aload_n 0, 1) := by decide +kernel
theorem dL_areRight_194 : decode cL_areRight 194 = .ok (.iload 9, 2) := by decide +kernel
theorem dL_areRight_196 : decode cL_areRight 196 = .ok (.iload_n 1, 1) := by decide +kernel
theorem dL_areRight_197 : decode cL_areRight 197 = .ok (.invokestatic 232, 3) := by decide +kernel
theorem dL_areRight_200 : decode cL_areRight 200 = .ok (.aload_n 0, 1) := by decide +kernel
theorem dL_areRight_201 : decode cL_areRight 201 = .ok (.aload 5, 2) := by decide +kernel
theorem dL_areRight_203 : decode cL_areRight 203 = .ok (.iload 12, 2) := by decide +kernel
theorem dL_areRight_205 : decode cL_areRight 205 = .ok (.iaload, 1) := by decide +kernel
theorem dL_areRight_206 : decode cL_areRight 206 = .ok (.iload_n 1, 1) := by decide +kernel
theorem dL_areRight_207 : decode cL_areRight 207 = .ok (.invokestatic 232, 3) := by decide +kernel
theorem dL_areRight_210 : decode cL_areRight 210 = .ok (.if_icmp .le 7, 3) := by decide +kernel
theorem dL_areRight_213 : decode cL_areRight 213 = .ok (.iconst 1, 1) := by decide +kernel
theorem dL_areRight_214 : decode cL_areRight 214 = .ok (.goto 4, 3) := by decide +kernel
theorem dL_areRight_217 : decode cL_areRight 217 = .ok (.iconst 0, 1) := by decide +kernel
theorem dL_areRight_218 : decode cL_areRight 218 = .ok (.iand, 1) := by decide +kernel
theorem dL_areRight_219 : decode cL_areRight 219 = .ok (.istore 7, 2) := by decide +kernel
theorem dL_areRight_221 : decode cL_areRight 221 = .ok (.iinc 12 1, 3) := by decide +kernel
theorem dL_areRight_224 : decode cL_areRight 224 = .ok (.goto (-115), 3) := by decide +kernel
theorem dL_areRight_227 : decode cL_areRight 227 = .ok (.iconst 0, 1) := by decide +kernel
theorem dL_areRight_228 : decode cL_areRight 228 = .ok (.istore 12, 2) := by decide +kernel
theorem dL_areRight_230 : decode cL_areRight 230 = .ok (.iload 12, 2) := by decide +kernel
theorem dL_areRight_232 : decode cL_areRight 232 = .ok (.bipush 6, 2) := by decide +kernel
theorem dL_areRight_234 : decode cL_areRight 234 = .ok (.if_icmp .ge 133, 3) := by decide +kernel
theorem dL_areRight_237 : decode cL_areRight 237 = .ok (.iload 9, 2) := by decide +kernel
theorem dL_areRight_239 : decode cL_areRight 239 = .ok (.iload 12, 2) := by decide +kernel
theorem dL_areRight_241 : decode cL_areRight 241 = .ok (.if_icmp .ne 7, 3) := by decide +kernel
theorem dL_areRight_244 : decode cL_areRight 244 = .ok (.lconst 1, 1) := by decide +kernel
theorem dL_areRight_245 : decode cL_areRight 245 = .ok (.goto 4, 3) := by decide +kernel
theorem dL_areRight_248 : decode cL_areRight 248 = .ok (.lconst 0, 1) := by decide +kernel
theorem dL_areRight_249 : decode cL_areRight 249 = .ok (.lstore 13, 2) := by decide +kernel
theorem dL_areRight_251 : decode cL_areRight 251 = .ok (.iconst 0, 1) := by decide +kernel
theorem dL_areRight_252 : decode cL_areRight 252 = .ok (.istore 15, 2) := by decide +kernel
theorem dL_areRight_254 : decode cL_areRight 254 = .ok (.iload 15, 2) := by decide +kernel
theorem dL_areRight_256 : decode cL_areRight 256 = .ok (.iload_n 2, 1) := by decide +kernel
theorem dL_areRight_257 : decode cL_areRight 257 = .ok (.if_icmp .ge 64, 3) := by decide +kernel
theorem dL_areRight_260 : decode cL_areRight 260 = .ok (.lload 13, 2) := by decide +kernel
theorem dL_areRight_262 : decode cL_areRight 262 = .ok (.aload_n 3, 1) := by decide +kernel
theorem dL_areRight_263 : decode cL_areRight 263 = .ok (.iload 15, 2) := by decide +kernel
theorem dL_areRight_265 : decode cL_areRight 265 = .ok (.iaload, 1) := by decide +kernel
theorem dL_areRight_266 : decode cL_areRight 266 = .ok (.iload 9, 2) := by decide +kernel
theorem dL_areRight_268 : decode cL_areRight 268 = .ok (.if_icmp .ne 43, 3) := by decide +kernel
theorem dL_areRight_271 : decode cL_areRight 271 = .ok (.iload 9, 2) := by decide +kernel
theorem dL_areRight_273 : decode cL_areRight 273 = .ok (.iload 12, 2) := by decide +kernel
theorem dL_areRight_275 : decode cL_areRight 275 = .ok (.if_icmp .eq 36, 3) := by decide +kernel
theorem dL_areRight_278 : decode cL_areRight 278 = .ok (.aload_n 0, 1) := by decide +kernel
theorem dL_areRight_279 : decode cL_areRight 279 = .ok (.iload 15, 2) := by decide +kernel
theorem dL_areRight_281 : decode cL_areRight 281 = .ok (.iload_n 1, 1) := by decide +kernel
theorem dL_areRight_282 : decode cL_areRight 282 = .ok (.invokestatic 176, 3) := by decide +kernel
theorem dL_areRight_285 : decode cL_areRight 285 = .ok (.iconst 1, 1) := by decide +kernel
theorem dL_areRight_286 : decode cL_areRight 286 = .ok (.if_icmp .ne 25, 3) := by decide +kernel
theorem dL_areRight_289 : decode cL_areRight 289 = .ok (.aload 6, 2) := by decide +kernel
theorem dL_areRight_291 : decode cL_areRight 291 = .ok (.iload 15, 2) := by decide +kernel
theorem dL_areRight_293 : decode cL_areRight 293 = .ok (.iaload, 1) := by decide +kernel
theorem dL_areRight_294 : decode cL_areRight 294 = .ok (.i2l, 1) := by decide +kernel
theorem dL_areRight_295 : decode cL_areRight 295 = .ok (.aload_n 0, 1) := by decide +kernel
theorem dL_areRight_296 : decode cL_areRight 296 = .ok (.aload 5, 2) := by decide +kernel
theorem dL_areRight_298 : decode cL_areRight 298 = .ok (.iload 15, 2) := by decide +kernel
theorem dL_areRight_300 : decode cL_areRight 300 = .ok (.iaload, 1) := by decide +kernel
theorem dL_areRight_301 : decode cL_areRight 301 = .ok (.iload 12, 2) := by decide +kernel
theorem dL_areRight_303 : decode cL_areRight 303 = .ok (.iload_n 1, 1) := by decide +kernel
theorem dL_areRight_304 : decode cL_areRight 304 = .ok (.invokestatic 167, 3) := by decide +kernel
theorem dL_areRight_307 : decode cL_areRight 307 = .ok (.lmul, 1) := by decide +kernel
theorem dL_areRight_308 : decode cL_areRight 308 = .ok (.goto 4, 3) := by decide +kernel
theorem dL_areRight_311 : decode cL_areRight 311 = .ok (.lconst 0, 1) := by decide +kernel
theorem dL_areRight_312 : decode cL_areRight 312 = .ok (.ladd, 1) := by decide +kernel
theorem dL_areRight_313 : decode cL_areRight 313 = .ok (.lstore 13, 2) := by decide +kernel
theorem dL_areRight_315 : decode cL_areRight 315 = .ok (.iinc 15 1, 3) := by decide +kernel
theorem dL_areRight_318 : decode cL_areRight 318 = .ok (.goto (-64), 3) := by decide +kernel
theorem dL_areRight_321 : decode cL_areRight 321 = .ok (.iload 7, 2) := by decide +kernel
theorem dL_areRight_323 : decode cL_areRight 323 = .ok (.aload_n 0, 1) := by decide +kernel
theorem dL_areRight_324 : decode cL_areRight 324 = .ok (.iload 9, 2) := by decide +kernel
theorem dL_areRight_326 : decode cL_areRight 326 = .ok (.iload 12, 2) := by decide +kernel
theorem dL_areRight_328 : decode cL_areRight 328 = .ok (.iload_n 1, 1) := by decide +kernel
theorem dL_areRight_329 : decode cL_areRight 329 = .ok (.invokestatic 167, 3) := by decide +kernel
theorem dL_areRight_332 : decode cL_areRight 332 = .ok (.lload 13, 2) := by decide +kernel
theorem dL_areRight_334 : decode cL_areRight 334 = .ok (.lcmp, 1) := by decide +kernel
theorem dL_areRight_335 : decode cL_areRight 335 = .ok (.ifCond .ne 22, 3) := by decide +kernel
theorem dL_areRight_338 : decode cL_areRight 338 = .ok (.aload_n 0, 1) := by decide +kernel
theorem dL_areRight_339 : decode cL_areRight 339 = .ok (.iload 9, 2) := by decide +kernel
theorem dL_areRight_341 : decode cL_areRight 341 = .ok (.iload 12, 2) := by decide +kernel
theorem dL_areRight_343 : decode cL_areRight 343 = .ok (.iload_n 1, 1) := by decide +kernel
theorem dL_areRight_344 : decode cL_areRight 344 = .ok (.invokestatic 234, 3) := by decide +kernel
theorem dL_areRight_347 : decode cL_areRight 347 = .ok (.lload 13, 2) := by decide +kernel
theorem dL_areRight_349 : decode cL_areRight 349 = .ok (.lcmp, 1) := by decide +kernel
theorem dL_areRight_350 : decode cL_areRight 350 = .ok (.ifCond .ne 7, 3) := by decide +kernel
theorem dL_areRight_353 : decode cL_areRight 353 = .ok (.iconst 1, 1) := by decide +kernel
theorem dL_areRight_354 : decode cL_areRight 354 = .ok (.goto 4, 3) := by decide +kernel
theorem dL_areRight_357 : decode cL_areRight 357 = .ok (.iconst 0, 1) := by decide +kernel
theorem dL_areRight_358 : decode cL_areRight 358 = .ok (.iand, 1) := by decide +kernel
theorem dL_areRight_359 : decode cL_areRight 359 = .ok (.istore 7, 2) := by decide +kernel
theorem dL_areRight_361 : decode cL_areRight 361 = .ok (.iinc 12 1, 3) := by decide +kernel
theorem dL_areRight_364 : decode cL_areRight 364 = .ok (.goto (-134), 3) := by decide +kernel
theorem dL_areRight_367 : decode cL_areRight 367 = .ok (.aload_n 0, 1) := by decide +kernel
theorem dL_areRight_368 : decode cL_areRight 368 = .ok (.iload 9, 2) := by decide +kernel
theorem dL_areRight_370 : decode cL_areRight 370 = .ok (.iload_n 1, 1) := by decide +kernel
theorem dL_areRight_371 : decode cL_areRight 371 = .ok (.invokestatic 228, 3) := by decide +kernel
theorem dL_areRight_374 : decode cL_areRight 374 = .ok (.istore 12, 2) := by decide +kernel
theorem dL_areRight_376 : decode cL_areRight 376 = .ok (.iload 7, 2) := by decide +kernel
theorem dL_areRight_378 : decode cL_areRight 378 = .ok (.aload_n 0, 1) := by decide +kernel
theorem dL_areRight_379 : decode cL_areRight 379 = .ok (.iload 9, 2) := by decide +kernel
theorem dL_areRight_381 : decode cL_areRight 381 = .ok (.iload_n 1, 1) := by decide +kernel
theorem dL_areRight_382 : decode cL_areRight 382 = .ok (.invokestatic 232, 3) := by decide +kernel
theorem dL_areRight_385 : decode cL_areRight 385 = .ok (.iconst 4, 1) := by decide +kernel
theorem dL_areRight_386 : decode cL_areRight 386 = .ok (.if_icmp .gt 172, 3) := by decide +kernel
theorem dL_areRight_389 : decode cL_areRight 389 = .ok (.iload 10, 2) := by decide +kernel
theorem dL_areRight_391 : decode cL_areRight 391 = .ok (.ifCond .le 7, 3) := by decide +kernel
theorem dL_areRight_394 : decode cL_areRight 394 = .ok (.iconst 1, 1) := by decide +kernel
theorem dL_areRight_395 : decode cL_areRight 395 = .ok (.goto 4, 3) := by decide +kernel
theorem dL_areRight_398 : decode cL_areRight 398 = .ok (.iconst 0, 1) := by decide +kernel
theorem dL_areRight_399 : decode cL_areRight 399 = .ok (.iload 12, 2) := by decide +kernel
theorem dL_areRight_401 : decode cL_areRight 401 = .ok (.ifCond .lt 7, 3) := by decide +kernel
theorem dL_areRight_404 : decode cL_areRight 404 = .ok (.iconst 1, 1) := by decide +kernel
theorem dL_areRight_405 : decode cL_areRight 405 = .ok (.goto 4, 3) := by decide +kernel
theorem dL_areRight_408 : decode cL_areRight 408 = .ok (.iconst 0, 1) := by decide +kernel
theorem dL_areRight_409 : decode cL_areRight 409 = .ok (.if_icmp .ne 149, 3) := by decide +kernel
theorem dL_areRight_412 : decode cL_areRight 412 = .ok (.iload 12, 2) := by decide +kernel
theorem dL_areRight_414 : decode cL_areRight 414 = .ok (.ifCond .lt 23, 3) := by decide +kernel
theorem dL_areRight_417 : decode cL_areRight 417 = .ok (.aload_n 3, 1) := by decide +kernel
theorem dL_areRight_418 : decode cL_areRight 418 = .ok (.iload 12, 2) := by decide +kernel
theorem dL_areRight_420 : decode cL_areRight 420 = .ok (.iaload, 1) := by decide +kernel
theorem dL_areRight_421 : decode cL_areRight 421 = .ok (.iload 9, 2) := by decide +kernel
theorem dL_areRight_423 : decode cL_areRight 423 = .ok (.if_icmp .ne 135, 3) := by decide +kernel
theorem dL_areRight_426 : decode cL_areRight 426 = .ok (.aload_n 0, 1) := by decide +kernel
theorem dL_areRight_427 : decode cL_areRight 427 = .ok (.iload 12, 2) := by decide +kernel
theorem dL_areRight_429 : decode cL_areRight 429 = .ok (.iload_n 1, 1) := by decide +kernel
theorem dL_areRight_430 : decode cL_areRight 430 = .ok (.invokestatic 176, 3) := by decide +kernel
theorem dL_areRight_433 : decode cL_areRight 433 = .ok (.iconst 1, 1) := by decide +kernel
theorem dL_areRight_434 : decode cL_areRight 434 = .ok (.if_icmp .ne 124, 3) := by decide +kernel
theorem dL_areRight_437 : decode cL_areRight 437 = .ok (.iload 11, 2) := by decide +kernel
theorem dL_areRight_439 : decode cL_areRight 439 = .ok (.ifCond .eq 15, 3) := by decide +kernel
theorem dL_areRight_442 : decode cL_areRight 442 = .ok (.aload_n 0, 1) := by decide +kernel
theorem dL_areRight_443 : decode cL_areRight 443 = .ok (.iload 9, 2) := by decide +kernel
theorem dL_areRight_445 : decode cL_areRight 445 = .ok (.iload_n 1, 1) := by decide +kernel
theorem dL_areRight_446 : decode cL_areRight 446 = .ok (.invokestatic 226, 3) := by decide +kernel
theorem dL_areRight_449 : decode cL_areRight 449 = .ok (.iload 10, 2) := by decide +kernel
theorem dL_areRight_451 : decode cL_areRight 451 = .ok (.if_icmp .ne 107, 3) := by decide +kernel
theorem dL_areRight_454 : decode cL_areRight 454 = .ok (.aload_n 0, 1) := by decide +kernel
theorem dL_areRight_455 : decode cL_areRight 455 = .ok (.iload 9, 2) := by decide +kernel
theorem dL_areRight_457 : decode cL_areRight 457 = .ok (.iload_n 1, 1) := by decide +kernel
theorem dL_areRight_458 : decode cL_areRight 458 = .ok (.invokestatic 217, 3) := by decide +kernel
theorem dL_areRight_461 : decode cL_areRight 461 = .ok (.aload_n 0, 1) := by decide +kernel
theorem dL_areRight_462 : decode cL_areRight 462 = .ok (.iload 9, 2) := by decide +kernel
theorem dL_areRight_464 : decode cL_areRight 464 = .ok (.iload_n 1, 1) := by decide +kernel
theorem dL_areRight_465 : decode cL_areRight 465 = .ok (.invokestatic 236, 3) := by decide +kernel
theorem dL_areRight_468 : decode cL_areRight 468 = .ok (.invokestatic 238, 3) := by decide +kernel
theorem dL_areRight_471 : decode cL_areRight 471 = .ok (.if_icmp .ne 87, 3) := by decide +kernel
theorem dL_areRight_474 : decode cL_areRight 474 = .ok (.aload_n 0, 1) := by decide +kernel
theorem dL_areRight_475 : decode cL_areRight 475 = .ok (.iload 9, 2) := by decide +kernel
theorem dL_areRight_477 : decode cL_areRight 477 = .ok (.iload_n 1, 1) := by decide +kernel
theorem dL_areRight_478 : decode cL_areRight 478 = .ok (.invokestatic 244, 3) := by decide +kernel
theorem dL_areRight_481 : decode cL_areRight 481 = .ok (.fconst 0, 1) := by decide +kernel
theorem dL_areRight_482 : decode cL_areRight 482 = .ok (.fcmp .l, 1) := by decide +kernel
theorem dL_areRight_483 : decode cL_areRight 483 = .ok (.ifCond .lt 75, 3) := by decide +kernel
theorem dL_areRight_486 : decode cL_areRight 486 = .ok (.iload 12, 2) := by decide +kernel
theorem dL_areRight_488 : decode cL_areRight 488 = .ok (.ifCond .lt 24, 3) := by decide +kernel
theorem dL_areRight_491 : decode cL_areRight 491 = .ok (.aload_n 0, 1) := by decide +kernel
theorem dL_areRight_492 : decode cL_areRight 492 = .ok (.iload 9, 2) := by decide +kernel
theorem dL_areRight_494 : decode cL_areRight 494 = .ok (.iload_n 1, 1) := by decide +kernel
theorem dL_areRight_495 : decode cL_areRight 495 = .ok (.invokestatic 244, 3) := by decide +kernel
theorem dL_areRight_498 : decode cL_areRight 498 = .ok (.aload_n 0, 1) := by decide +kernel
theorem dL_areRight_499 : decode cL_areRight 499 = .ok (.aload 5, 2) := by decide +kernel
theorem dL_areRight_501 : decode cL_areRight 501 = .ok (.iload 12, 2) := by decide +kernel
theorem dL_areRight_503 : decode cL_areRight 503 = .ok (.iaload, 1) := by decide +kernel
theorem dL_areRight_504 : decode cL_areRight 504 = .ok (.iload_n 1, 1) := by decide +kernel
theorem dL_areRight_505 : decode cL_areRight 505 = .ok (.invokestatic 244, 3) := by decide +kernel
theorem dL_areRight_508 : decode cL_areRight 508 = .ok (.fcmp .l, 1) := by decide +kernel
theorem dL_areRight_509 : decode cL_areRight 509 = .ok (.ifCond .lt 49, 3) := by decide +kernel
theorem dL_areRight_512 : decode cL_areRight 512 = .ok (.aload_n 0, 1) := by decide +kernel
theorem dL_areRight_513 : decode cL_areRight 513 = .ok (.iload 9, 2) := by decide +kernel
theorem dL_areRight_515 : decode cL_areRight 515 = .ok (.iload_n 1, 1) := by decide +kernel
theorem dL_areRight_516 : decode cL_areRight 516 = .ok (.invokestatic 246, 3) := by decide +kernel
theorem dL_areRight_519 : decode cL_areRight 519 = .ok (.aload_n 0, 1) := by decide +kernel
theorem dL_areRight_520 : decode cL_areRight 520 = .ok (.iload 9, 2) := by decide +kernel
theorem dL_areRight_522 : decode cL_areRight 522 = .ok (.iload_n 1, 1) := by decide +kernel
theorem dL_areRight_523 : decode cL_areRight 523 = .ok (.invokestatic 244, 3) := by decide +kernel
theorem dL_areRight_526 : decode cL_areRight 526 = .ok (.ldc 248, 2) := by decide +kernel
theorem dL_areRight_528 : decode cL_areRight 528 = .ok (.fmul, 1) := by decide +kernel
theorem dL_areRight_529 : decode cL_areRight 529 = .ok (.f2i, 1) := by decide +kernel
theorem dL_areRight_530 : decode cL_areRight 530 = .ok (.if_icmp .ne 28, 3) := by decide +kernel
theorem dL_areRight_533 : decode cL_areRight 533 = .ok (.aload_n 0, 1) := by decide +kernel
theorem dL_areRight_534 : decode cL_areRight 534 = .ok (.iload 9, 2) := by decide +kernel
theorem dL_areRight_536 : decode cL_areRight 536 = .ok (.iload_n 1, 1) := by decide +kernel
theorem dL_areRight_537 : decode cL_areRight 537 = .ok (.invokestatic 221, 3) := by decide +kernel
theorem dL_areRight_540 : decode cL_areRight 540 = .ok (.aload_n 0, 1) := by decide +kernel
theorem dL_areRight_541 : decode cL_areRight 541 = .ok (.iload 9, 2) := by decide +kernel
theorem dL_areRight_543 : decode cL_areRight 543 = .ok (.iload_n 1, 1) := by decide +kernel
theorem dL_areRight_544 : decode cL_areRight 544 = .ok (.invokestatic 249, 3) := by decide +kernel
theorem dL_areRight_547 : decode cL_areRight 547 = .ok (.invokestatic 252, 3) := by decide +kernel
theorem dL_areRight_550 : decode cL_areRight 550 = .ok (.lcmp, 1) := by decide +kernel
theorem dL_areRight_551 : decode cL_areRight 551 = .ok (.ifCond .ne 7, 3) := by decide +kernel
theorem dL_areRight_554 : decode cL_areRight 554 = .ok (.iconst 1, 1) := by decide +kernel
theorem dL_areRight_555 : decode cL_areRight 555 = .ok (.goto 4, 3) := by decide +kernel
theorem dL_areRight_558 : decode cL_areRight 558 = .ok (.iconst 0, 1) := by decide +kernel
theorem dL_areRight_559 : decode cL_areRight 559 = .ok (.iand, 1) := by decide +kernel
theorem dL_areRight_560 : decode cL_areRight 560 = .ok (.istore 7, 2) := by decide +kernel
theorem dL_areRight_562 : decode cL_areRight 562 = .ok (.lconst 0, 1) := by decide +kernel
theorem dL_areRight_563 : decode cL_areRight 563 = .ok (.lstore 13, 2) := by decide +kernel
theorem dL_areRight_565 : decode cL_areRight 565 = .ok (.iconst 0, 1) := by decide +kernel
theorem dL_areRight_566 : decode cL_areRight 566 = .ok (.istore 15, 2) := by decide +kernel
theorem dL_areRight_568 : decode cL_areRight 568 = .ok (.iload 15, 2) := by decide +kernel
theorem dL_areRight_570 : decode cL_areRight 570 = .ok (.aload_n 0, 1) := by decide +kernel
theorem dL_areRight_571 : decode cL_areRight 571 = .ok (.iload 9, 2) := by decide +kernel
theorem dL_areRight_573 : decode cL_areRight 573 = .ok (.iload_n 1, 1) := by decide +kernel
theorem dL_areRight_574 : decode cL_areRight 574 = .ok (.invokestatic 226, 3) := by decide +kernel
theorem dL_areRight_577 : decode cL_areRight 577 = .ok (.if_icmp .ge 51, 3) := by decide +kernel
theorem dL_areRight_580 : decode cL_areRight 580 = .ok (.lload 13, 2) := by decide +kernel
theorem dL_areRight_582 : decode cL_areRight 582 = .ok (.aload_n 0, 1) := by decide +kernel
theorem dL_areRight_583 : decode cL_areRight 583 = .ok (.iload 9, 2) := by decide +kernel
theorem dL_areRight_585 : decode cL_areRight 585 = .ok (.iload_n 1, 1) := by decide +kernel
theorem dL_areRight_586 : decode cL_areRight 586 = .ok (.iload 15, 2) := by decide +kernel
theorem dL_areRight_588 : decode cL_areRight 588 = .ok (.invokestatic 258, 3) := by decide +kernel
theorem dL_areRight_591 : decode cL_areRight 591 = .ok (.ladd, 1) := by decide +kernel
theorem dL_areRight_592 : decode cL_areRight 592 = .ok (.lstore 13, 2) := by decide +kernel
theorem dL_areRight_594 : decode cL_areRight 594 = .ok (.iload 7, 2) := by decide +kernel
theorem dL_areRight_596 : decode cL_areRight 596 = .ok (.aload_n 0, 1) := by decide +kernel
theorem dL_areRight_597 : decode cL_areRight 597 = .ok (.aload_n 0, 1) := by decide +kernel
theorem dL_areRight_598 : decode cL_areRight 598 = .ok (.iload 9, 2) := by decide +kernel
theorem dL_areRight_600 : decode cL_areRight 600 = .ok (.iload_n 1, 1) := by decide +kernel
theorem dL_areRight_601 : decode cL_areRight 601 = .ok (.iload 15, 2) := by decide +kernel
theorem dL_areRight_603 : decode cL_areRight 603 = .ok (.invokestatic 260, 3) := by decide +kernel
theorem dL_areRight_606 : decode cL_areRight 606 = .ok (.invokestatic 230, 3) := by decide +kernel
theorem dL_areRight_609 : decode cL_areRight 609 = .ok (.bipush 112, 2) := by decide +kernel
theorem dL_areRight_611 : decode cL_areRight 611 = .ok (.if_icmp .eq 7, 3) := by decide +kernel
theorem dL_areRight_614 : decode cL_areRight 614 = .ok (.iconst 1, 1) := by decide +kernel
theorem dL_areRight_615 : decode cL_areRight 615 = .ok (.goto 4, 3) := by decide +kernel
theorem dL_areRight_618 : decode cL_areRight 618 = .ok (.iconst 0, 1) := by decide +kernel
theorem dL_areRight_619 : decode cL_areRight 619 = .ok (.iand, 1) := by decide +kernel
theorem dL_areRight_620 : decode cL_areRight 620 = .ok (.istore 7, 2) := by decide +kernel
theorem dL_areRight_622 : decode cL_areRight 622 = .ok (.iinc 15 1, 3) := by decide +kernel
theorem dL_areRight_625 : decode cL_areRight 625 = .ok (.goto (-57), 3) := by decide +kernel
theorem dL_areRight_628 : decode cL_areRight 628 = .ok (.lconst 0, 1) := by decide +kernel
theorem dL_areRight_629 : decode cL_areRight 629 = .ok (.lstore 15, 2) := by decide +kernel
theorem dL_areRight_631 : decode cL_areRight 631 = .ok (.iconst 0, 1) := by decide +kernel
theorem dL_areRight_632 : decode cL_areRight 632 = .ok (.istore 17, 2) := by decide +kernel
theorem dL_areRight_634 : decode cL_areRight 634 = .ok (.iload 17, 2) := by decide +kernel
theorem dL_areRight_636 : decode cL_areRight 636 = .ok (.bipush 6, 2) := by decide +kernel
theorem dL_areRight_638 : decode cL_areRight 638 = .ok (.if_icmp .ge 45, 3) := by decide +kernel
theorem dL_areRight_641 : decode cL_areRight 641 = .ok (.lload 15, 2) := by decide +kernel
theorem dL_areRight_643 : decode cL_areRight 643 = .ok (.iload 17, 2) := by decide +kernel
theorem dL_areRight_645 : decode cL_areRight 645 = .ok (.iload 9, 2) := by decide +kernel
theorem dL_areRight_647 : decode cL_areRight 647 = .ok (.if_icmp .eq 26, 3) := by decide +kernel
theorem dL_areRight_650 : decode cL_areRight 650 = .ok (.aload_n 0, 1) := by decide +kernel
theorem dL_areRight_651 : decode cL_areRight 651 = .ok (.iload 17, 2) := by decide +kernel
theorem dL_areRight_653 : decode cL_areRight 653 = .ok (.invokestatic 230, 3) := by decide +kernel
theorem dL_areRight_656 : decode cL_areRight 656 = .ok (.bipush 112, 2) := by decide +kernel
theorem dL_areRight_658 : decode cL_areRight 658 = .ok (.if_icmp .eq 15, 3) := by decide +kernel
theorem dL_areRight_661 : decode cL_areRight 661 = .ok (.aload_n 0, 1) := by decide +kernel
theorem dL_areRight_662 : decode cL_areRight 662 = .ok (.iload 9, 2) := by decide +kernel
theorem dL_areRight_664 : decode cL_areRight 664 = .ok (.iload 17, 2) := by decide +kernel
theorem dL_areRight_666 : decode cL_areRight 666 = .ok (.iload_n 1, 1) := by decide +kernel
theorem dL_areRight_667 : decode cL_areRight 667 = .ok (.invokestatic 167, 3) := by decide +kernel
theorem dL_areRight_670 : decode cL_areRight 670 = .ok (.goto 4, 3) := by decide +kernel
theorem dL_areRight_673 : decode cL_areRight 673 = .ok (.lconst 0, 1) := by decide +kernel
theorem dL_areRight_674 : decode cL_areRight 674 = .ok (.ladd, 1) := by decide +kernel
theorem dL_areRight_675 : decode cL_areRight 675 = .ok (.lstore 15, 2) := by decide +kernel
theorem dL_areRight_677 : decode cL_areRight 677 = .ok (.iinc 17 1, 3) := by decide +kernel
theorem dL_areRight_680 : decode cL_areRight 680 = .ok (.goto (-46), 3) := by decide +kernel
theorem dL_areRight_683 : decode cL_areRight 683 = .ok (.iload 7, 2) := by decide +kernel
theorem dL_areRight_685 : decode cL_areRight 685 = .ok (.lload 13, 2) := by decide +kernel
theorem dL_areRight_687 : decode cL_areRight 687 = .ok (.lload 15, 2) := by decide +kernel
theorem dL_areRight_689 : decode cL_areRight 689 = .ok (.lcmp, 1) := by decide +kernel
theorem dL_areRight_690 : decode cL_areRight 690 = .ok (.ifCond .gt 7, 3) := by decide +kernel
theorem dL_areRight_693 : decode cL_areRight 693 = .ok (.iconst 1, 1) := by decide +kernel
theorem dL_areRight_694 : decode cL_areRight 694 = .ok (.goto 4, 3) := by decide +kernel
theorem dL_areRight_697 : decode cL_areRight 697 = .ok (.iconst 0, 1) := by decide +kernel
theorem dL_areRight_698 : decode cL_areRight 698 = .ok (.iand, 1) := by decide +kernel
theorem dL_areRight_699 : decode cL_areRight 699 = .ok (.istore 7, 2) := by decide +kernel
theorem dL_areRight_701 : decode cL_areRight 701 = .ok (.iinc 9 1, 3) := by decide +kernel
theorem dL_areRight_704 : decode cL_areRight 704 = .ok (.goto (-616), 3) := by decide +kernel
theorem dL_areRight_707 : decode cL_areRight 707 = .ok (.iload 7, 2) := by decide +kernel
theorem dL_areRight_709 : decode cL_areRight 709 = .ok (.ifCond .eq 15, 3) := by decide +kernel
theorem dL_areRight_712 : decode cL_areRight 712 = .ok (.aload_n 0, 1) := by decide +kernel
theorem dL_areRight_713 : decode cL_areRight 713 = .ok (.iload_n 1, 1) := by decide +kernel
theorem dL_areRight_714 : decode cL_areRight 714 = .ok (.invokestatic 262, 3) := by decide +kernel
theorem dL_areRight_717 : decode cL_areRight 717 = .ok (.ifCond .eq 7, 3) := by decide +kernel
theorem dL_areRight_720 : decode cL_areRight 720 = .ok (.iconst 1, 1) := by decide +kernel
theorem dL_areRight_721 : decode cL_areRight 721 = .ok (.goto 4, 3) := by decide +kernel
theorem dL_areRight_724 : decode cL_areRight 724 = .ok (.iconst 0, 1) := by decide +kernel
theorem dL_areRight_725 : decode cL_areRight 725 = .ok (.ireturn, 1) := by decide +kernel
