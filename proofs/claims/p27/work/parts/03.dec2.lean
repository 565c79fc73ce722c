theorem dL_mules_187 : decode cL_mules 187 = .ok (.istore 6, 2) := by decide +kernel
theorem dL_mules_189 : decode cL_mules 189 = .ok (.iload_n 3, 1) := by decide +kernel
theorem dL_mules_190 : decode cL_mules 190 = .ok (.iconst 2, 1) := by decide +kernel
theorem dL_mules_191 : decode cL_mules 191 = .ok (.if_icmp .ne 63, 3) := by decide +kernel
theorem dL_mules_194 : decode cL_mules 194 = .ok (.aload_n 2, 1) := by decide +kernel
theorem dL_mules_195 : decode cL_mules 195 = .ok (.iload 6, 2) := by decide +kernel
theorem dL_mules_197 : decode cL_mules 197 = .ok (.iconst 2, 1) := by decide +kernel
theorem dL_mules_198 : decode cL_mules 198 = .ok (.iadd, 1) := by decide +kernel
theorem dL_mules_199 : decode cL_mules 199 = .ok (.iaload, 1) := by decide +kernel
theorem dL_mules_200 : decode cL_mules 200 = .ok (.ifCond .le 20, 3) := by decide +kernel
theorem dL_mules_203 : decode cL_mules 203 = .ok (.aload_n 0, 1) := by decide +kernel
theorem dL_mules_204 : decode cL_mules 204 = .ok (.iload 5, 2) := by decide +kernel
theorem dL_mules_206 : decode cL_mules 206 = .ok (.invokevirtual 41, 3) := by decide +kernel
theorem dL_mules_209 : decode cL_mules 209 = .ok (.ldc 45, 2) := by decide +kernel
theorem dL_mules_211 : decode cL_mules 211 = .ok (.if_icmp .ne 7, 3) := by decide +kernel
theorem dL_mules_214 : decode cL_mules 214 = .ok (.iconst 1, 1) := by decide +kernel
theorem dL_mules_215 : decode cL_mules 215 = .ok (.goto 4, 3) := by decide +kernel
theorem dL_mules_218 : decode cL_mules 218 = .ok (.iconst 0, 1) := by decide +kernel
theorem dL_mules_219 : decode cL_mules 219 = .ok (.ireturn, 1) := by decide +kernel
theorem dL_mules_220 : decode cL_mules 220 = .ok (.aload_n 2, 1) := by decide +kernel
theorem dL_mules_221 : decode cL_mules 221 = .ok (.iload 6, 2) := by decide +kernel
theorem dL_mules_223 : decode cL_mules 223 = .ok (.bipush 6, 2) := by decide +kernel
theorem dL_mules_225 : decode cL_mules 225 = .ok (.iadd, 1) := by decide +kernel
theorem dL_mules_226 : decode cL_mules 226 = .ok (.iaload, 1) := by decide +kernel
theorem dL_mules_227 : decode cL_mules 227 = .ok (.istore 7, 2) := by decide +kernel
theorem dL_mules_229 : decode cL_mules 229 = .ok (.aload_n 2, 1) := by decide +kernel
theorem dL_mules_230 : decode cL_mules 230 = .ok (.iload 6, 2) := by decide +kernel
theorem dL_mules_232 : decode cL_mules 232 = .ok (.bipush 6, 2) := by decide +kernel
theorem dL_mules_234 : decode cL_mules 234 = .ok (.iadd, 1) := by decide +kernel
theorem dL_mules_235 : decode cL_mules 235 = .ok (.iconst 0, 1) := by decide +kernel
theorem dL_mules_236 : decode cL_mules 236 = .ok (.iastore, 1) := by decide +kernel
theorem dL_mules_237 : decode cL_mules 237 = .ok (.aload_n 0, 1) := by decide +kernel
theorem dL_mules_238 : decode cL_mules 238 = .ok (.iload 5, 2) := by decide +kernel
theorem dL_mules_240 : decode cL_mules 240 = .ok (.invokevirtual 41, 3) := by decide +kernel
theorem dL_mules_243 : decode cL_mules 243 = .ok (.iload 7, 2) := by decide +kernel
theorem dL_mules_245 : decode cL_mules 245 = .ok (.if_icmp .ne 7, 3) := by decide +kernel
theorem dL_mules_248 : decode cL_mules 248 = .ok (.iconst 1, 1) := by decide +kernel
theorem dL_mules_249 : decode cL_mules 249 = .ok (.goto 4, 3) := by decide +kernel
theorem dL_mules_252 : decode cL_mules 252 = .ok (.iconst 0, 1) := by decide +kernel
theorem dL_mules_253 : decode cL_mules 253 = .ok (.ireturn, 1) := by decide +kernel
theorem dL_mules_254 : decode cL_mules 254 = .ok (.iload 4, 2) := by decide +kernel
theorem dL_mules_256 : decode cL_mules 256 = .ok (.bipush 6, 2) := by decide +kernel
theorem dL_mules_258 : decode cL_mules 258 = .ok (.irem, 1) := by decide +kernel
theorem dL_mules_259 : decode cL_mules 259 = .ok (.ifCond .ne 15, 3) := by decide +kernel
theorem dL_mules_262 : decode cL_mules 262 = .ok (.iconst 1, 1) := by decide +kernel
theorem dL_mules_263 : decode cL_mules 263 = .ok (.iload 4, 2) := by decide +kernel
theorem dL_mules_265 : decode cL_mules 265 = .ok (.iconst 4, 1) := by decide +kernel
theorem dL_mules_266 : decode cL_mules 266 = .ok (.idiv, 1) := by decide +kernel
theorem dL_mules_267 : decode cL_mules 267 = .ok (.bipush 30, 2) := by decide +kernel
theorem dL_mules_269 : decode cL_mules 269 = .ok (.irem, 1) := by decide +kernel
theorem dL_mules_270 : decode cL_mules 270 = .ok (.iadd, 1) := by decide +kernel
theorem dL_mules_271 : decode cL_mules 271 = .ok (.goto 14, 3) := by decide +kernel
theorem dL_mules_274 : decode cL_mules 274 = .ok (.iconst 1, 1) := by decide +kernel
theorem dL_mules_275 : decode cL_mules 275 = .ok (.iload 4, 2) := by decide +kernel
theorem dL_mules_277 : decode cL_mules 277 = .ok (.iconst 4, 1) := by decide +kernel
theorem dL_mules_278 : decode cL_mules 278 = .ok (.idiv, 1) := by decide +kernel
theorem dL_mules_279 : decode cL_mules 279 = .ok (.aload_n 2, 1) := by decide +kernel
theorem dL_mules_280 : decode cL_mules 280 = .ok (.iload 6, 2) := by decide +kernel
theorem dL_mules_282 : decode cL_mules 282 = .ok (.iaload, 1) := by decide +kernel
theorem dL_mules_283 : decode cL_mules 283 = .ok (.irem, 1) := by decide +kernel
theorem dL_mules_284 : decode cL_mules 284 = .ok (.iadd, 1) := by decide +kernel
theorem dL_mules_285 : decode cL_mules 285 = .ok (.istore 7, 2) := by decide +kernel
theorem dL_mules_287 : decode cL_mules 287 = .ok (.aload_n 1, 1) := by decide +kernel
theorem dL_mules_288 : decode cL_mules 288 = .ok (.aload_n 2, 1) := by decide +kernel
theorem dL_mules_289 : decode cL_mules 289 = .ok (.iload 5, 2) := by decide +kernel
theorem dL_mules_291 : decode cL_mules 291 = .ok (.iload 7, 2) := by decide +kernel
theorem dL_mules_293 : decode cL_mules 293 = .ok (.invokestatic 46, 3) := by decide +kernel
theorem dL_mules_296 : decode cL_mules 296 = .ok (.ifCond .le 22, 3) := by decide +kernel
theorem dL_mules_299 : decode cL_mules 299 = .ok (.aload_n 0, 1) := by decide +kernel
theorem dL_mules_300 : decode cL_mules 300 = .ok (.iload 5, 2) := by decide +kernel
theorem dL_mules_302 : decode cL_mules 302 = .ok (.iload 7, 2) := by decide +kernel
theorem dL_mules_304 : decode cL_mules 304 = .ok (.invokevirtual 37, 3) := by decide +kernel
theorem dL_mules_307 : decode cL_mules 307 = .ok (.ldc 45, 2) := by decide +kernel
theorem dL_mules_309 : decode cL_mules 309 = .ok (.if_icmp .ne 7, 3) := by decide +kernel
theorem dL_mules_312 : decode cL_mules 312 = .ok (.iconst 1, 1) := by decide +kernel
theorem dL_mules_313 : decode cL_mules 313 = .ok (.goto 4, 3) := by decide +kernel
theorem dL_mules_316 : decode cL_mules 316 = .ok (.iconst 0, 1) := by decide +kernel
theorem dL_mules_317 : decode cL_mules 317 = .ok (.ireturn, 1) := by decide +kernel
theorem dL_mules_318 : decode cL_mules 318 = .ok (.aload_n 2, 1) := by decide +kernel
theorem dL_mules_319 : decode cL_mules 319 = .ok (.iload 6, 2) := by decide +kernel
theorem dL_mules_321 : decode cL_mules 321 = .ok (.iconst 2, 1) := by decide +kernel
theorem dL_mules_322 : decode cL_mules 322 = .ok (.iadd, 1) := by decide +kernel
theorem dL_mules_323 : decode cL_mules 323 = .ok (.iconst 1, 1) := by decide +kernel
theorem dL_mules_324 : decode cL_mules 324 = .ok (.iastore, 1) := by decide +kernel
theorem dL_mules_325 : decode cL_mules 325 = .ok (.aload_n 2, 1) := by decide +kernel
theorem dL_mules_326 : decode cL_mules 326 = .ok (.iload 6, 2) := by decide +kernel
theorem dL_mules_328 : decode cL_mules 328 = .ok (.iconst 3, 1) := by decide +kernel
theorem dL_mules_329 : decode cL_mules 329 = .ok (.iadd, 1) := by decide +kernel
theorem dL_mules_330 : decode cL_mules 330 = .ok (.iconst 2, 1) := by decide +kernel
theorem dL_mules_331 : decode cL_mules 331 = .ok (.iastore, 1) := by decide +kernel
theorem dL_mules_332 : decode cL_mules 332 = .ok (.aload_n 2, 1) := by decide +kernel
theorem dL_mules_333 : decode cL_mules 333 = .ok (.iload 6, 2) := by decide +kernel
theorem dL_mules_335 : decode cL_mules 335 = .ok (.iconst 4, 1) := by decide +kernel
theorem dL_mules_336 : decode cL_mules 336 = .ok (.iadd, 1) := by decide +kernel
theorem dL_mules_337 : decode cL_mules 337 = .ok (.iload 7, 2) := by decide +kernel
theorem dL_mules_339 : decode cL_mules 339 = .ok (.iastore, 1) := by decide +kernel
theorem dL_mules_340 : decode cL_mules 340 = .ok (.aload_n 2, 1) := by decide +kernel
theorem dL_mules_341 : decode cL_mules 341 = .ok (.iload 6, 2) := by decide +kernel
theorem dL_mules_343 : decode cL_mules 343 = .ok (.iconst 5, 1) := by decide +kernel
theorem dL_mules_344 : decode cL_mules 344 = .ok (.iadd, 1) := by decide +kernel
theorem dL_mules_345 : decode cL_mules 345 = .ok (.aload_n 1, 1) := by decide +kernel
theorem dL_mules_346 : decode cL_mules 346 = .ok (.iconst 3, 1) := by decide +kernel
theorem dL_mules_347 : decode cL_mules 347 = .ok (.iaload, 1) := by decide +kernel
theorem dL_mules_348 : decode cL_mules 348 = .ok (.iastore, 1) := by decide +kernel
theorem dL_mules_349 : decode cL_mules 349 = .ok (.aload_n 2, 1) := by decide +kernel
theorem dL_mules_350 : decode cL_mules 350 = .ok (.iload 6, 2) := by decide +kernel
theorem dL_mules_352 : decode cL_mules 352 = .ok (.bipush 6, 2) := by decide +kernel
theorem dL_mules_354 : decode cL_mules 354 = .ok (.iadd, 1) := by decide +kernel
theorem dL_mules_355 : decode cL_mules 355 = .ok (.dup2, 1) := by decide +kernel
theorem dL_mules_356 : decode cL_mules 356 = .ok (.iaload, 1) := by decide +kernel
theorem dL_mules_357 : decode cL_mules 357 = .ok (.iconst 1, 1) := by decide +kernel
theorem dL_mules_358 : decode cL_mules 358 = .ok (.iadd, 1) := by decide +kernel
theorem dL_mules_359 : decode cL_mules 359 = .ok (.iastore, 1) := by decide +kernel
theorem dL_mules_360 : decode cL_mules 360 = .ok (.aload_n 1, 1) := by decide +kernel
theorem dL_mules_361 : decode cL_mules 361 = .ok (.bipush 6, 2) := by decide +kernel
theorem dL_mules_363 : decode cL_mules 363 = .ok (.dup2, 1) := by decide +kernel
theorem dL_mules_364 : decode cL_mules 364 = .ok (.iaload, 1) := by decide +kernel
theorem dL_mules_365 : decode cL_mules 365 = .ok (.aload_n 1, 1) := by decide +kernel
theorem dL_mules_366 : decode cL_mules 366 = .ok (.bipush 15, 2) := by decide +kernel
theorem dL_mules_368 : decode cL_mules 368 = .ok (.iaload, 1) := by decide +kernel
theorem dL_mules_369 : decode cL_mules 369 = .ok (.iload 7, 2) := by decide +kernel
theorem dL_mules_371 : decode cL_mules 371 = .ok (.imul, 1) := by decide +kernel
theorem dL_mules_372 : decode cL_mules 372 = .ok (.iadd, 1) := by decide +kernel
theorem dL_mules_373 : decode cL_mules 373 = .ok (.iastore, 1) := by decide +kernel
theorem dL_mules_374 : decode cL_mules 374 = .ok (.aload_n 1, 1) := by decide +kernel
theorem dL_mules_375 : decode cL_mules 375 = .ok (.bipush 7, 2) := by decide +kernel
theorem dL_mules_377 : decode cL_mules 377 = .ok (.dup2, 1) := by decide +kernel
theorem dL_mules_378 : decode cL_mules 378 = .ok (.iaload, 1) := by decide +kernel
theorem dL_mules_379 : decode cL_mules 379 = .ok (.iload 7, 2) := by decide +kernel
theorem dL_mules_381 : decode cL_mules 381 = .ok (.iadd, 1) := by decide +kernel
theorem dL_mules_382 : decode cL_mules 382 = .ok (.iastore, 1) := by decide +kernel
theorem dL_mules_383 : decode cL_mules 383 = .ok (.aload_n 0, 1) := by decide +kernel
theorem dL_mules_384 : decode cL_mules 384 = .ok (.iload 5, 2) := by decide +kernel
theorem dL_mules_386 : decode cL_mules 386 = .ok (.iload 7, 2) := by decide +kernel
theorem dL_mules_388 : decode cL_mules 388 = .ok (.invokevirtual 37, 3) := by decide +kernel
theorem dL_mules_391 : decode cL_mules 391 = .ok (.aload_n 1, 1) := by decide +kernel
theorem dL_mules_392 : decode cL_mules 392 = .ok (.bipush 6, 2) := by decide +kernel
theorem dL_mules_394 : decode cL_mules 394 = .ok (.iaload, 1) := by decide +kernel
theorem dL_mules_395 : decode cL_mules 395 = .ok (.if_icmp .ne 7, 3) := by decide +kernel
theorem dL_mules_398 : decode cL_mules 398 = .ok (.iconst 1, 1) := by decide +kernel
theorem dL_mules_399 : decode cL_mules 399 = .ok (.goto 4, 3) := by decide +kernel
theorem dL_mules_402 : decode cL_mules 402 = .ok (.iconst 0, 1) := by decide +kernel
theorem dL_mules_403 : decode cL_mules 403 = .ok (.ireturn, 1) := by decide +kernel
theorem dL_acts_0 : decode cL_acts 0 = .ok (.iload 5, 2) := by decide +kernel
theorem dL_acts_2 : decode cL_acts 2 = .ok (.iconst 5, 1) := by decide +kernel
theorem dL_acts_3 : decode cL_acts 3 = .ok (.ishr, 1) := by decide +kernel
theorem dL_acts_4 : decode cL_acts 4 = .ok (.ldc 50, 2) := by decide +kernel
theorem dL_acts_6 : decode cL_acts 6 = .ok (.invokestatic 51, 3) := by decide +kernel
theorem dL_acts_9 : decode cL_acts 9 = .ok (.istore 6, 2) := by decide +kernel
theorem dL_acts_11 : decode cL_acts 11 = .ok (.iload 5, 2) := by decide +kernel
theorem dL_acts_13 : decode cL_acts 13 = .ok (.bipush 32, 2) := by decide +kernel
theorem dL_acts_15 : decode cL_acts 15 = .ok (.invokestatic 51, 3) := by decide +kernel
theorem dL_acts_18 : decode cL_acts 18 = .ok (.istore 7, 2) := by decide +kernel
theorem dL_acts_20 : decode cL_acts 20 = .ok (.iload 7, 2) := by decide +kernel
theorem dL_acts_22 : decode cL_acts 22 = .ok (.bipush 12, 2) := by decide +kernel
theorem dL_acts_24 : decode cL_acts 24 = .ok (.if_icmp .ge 14, 3) := by decide +kernel
theorem dL_acts_27 : decode cL_acts 27 = .ok (.aload_n 0, 1) := by decide +kernel
theorem dL_acts_28 : decode cL_acts 28 = .ok (.aload_n 1, 1) := by decide +kernel
theorem dL_acts_29 : decode cL_acts 29 = .ok (.aload_n 2, 1) := by decide +kernel
theorem dL_acts_30 : decode cL_acts 30 = .ok (.iload 7, 2) := by decide +kernel
theorem dL_acts_32 : decode cL_acts 32 = .ok (.iload 6, 2) := by decide +kernel
theorem dL_acts_34 : decode cL_acts 34 = .ok (.invokestatic 54, 3) := by decide +kernel
theorem dL_acts_37 : decode cL_acts 37 = .ok (.ireturn, 1) := by decide +kernel
theorem dL_acts_38 : decode cL_acts 38 = .ok (.iload 7, 2) := by decide +kernel
theorem dL_acts_40 : decode cL_acts 40 = .ok (.bipush 18, 2) := by decide +kernel
theorem dL_acts_42 : decode cL_acts 42 = .ok (.if_icmp .ge 170, 3) := by decide +kernel
theorem dL_acts_45 : decode cL_acts 45 = .ok (.iconst 1, 1) := by decide +kernel
theorem dL_acts_46 : decode cL_acts 46 = .ok (.iload 6, 2) := by decide +kernel
theorem dL_acts_48 : decode cL_acts 48 = .ok (.bipush 12, 2) := by decide +kernel
theorem dL_acts_50 : decode cL_acts 50 = .ok (.irem, 1) := by decide +kernel
theorem dL_acts_51 : decode cL_acts 51 = .ok (.iadd, 1) := by decide +kernel
theorem dL_acts_52 : decode cL_acts 52 = .ok (.istore 8, 2) := by decide +kernel
theorem dL_acts_54 : decode cL_acts 54 = .ok (.iload 6, 2) := by decide +kernel
theorem dL_acts_56 : decode cL_acts 56 = .ok (.bipush 12, 2) := by decide +kernel
theorem dL_acts_58 : decode cL_acts 58 = .ok (.idiv, 1) := by decide +kernel
theorem dL_acts_59 : decode cL_acts 59 = .ok (.iload 6, 2) := by decide +kernel
theorem dL_acts_61 : decode cL_acts 61 = .ok (.iconst 5, 1) := by decide +kernel
theorem dL_acts_62 : decode cL_acts 62 = .ok (.irem, 1) := by decide +kernel
theorem dL_acts_63 : decode cL_acts 63 = .ok (.ifCond .ne 8, 3) := by decide +kernel
theorem dL_acts_66 : decode cL_acts 66 = .ok (.bipush 61, 2) := by decide +kernel
theorem dL_acts_68 : decode cL_acts 68 = .ok (.goto 5, 3) := by decide +kernel
theorem dL_acts_71 : decode cL_acts 71 = .ok (.bipush 8, 2) := by decide +kernel
theorem dL_acts_73 : decode cL_acts 73 = .ok (.irem, 1) := by decide +kernel
theorem dL_acts_74 : decode cL_acts 74 = .ok (.istore 9, 2) := by decide +kernel
theorem dL_acts_76 : decode cL_acts 76 = .ok (.iconst 1, 1) := by decide +kernel
theorem dL_acts_77 : decode cL_acts 77 = .ok (.iload 6, 2) := by decide +kernel
theorem dL_acts_79 : decode cL_acts 79 = .ok (.bipush 7, 2) := by decide +kernel
theorem dL_acts_81 : decode cL_acts 81 = .ok (.idiv, 1) := by decide +kernel
theorem dL_acts_82 : decode cL_acts 82 = .ok (.bipush 9, 2) := by decide +kernel
theorem dL_acts_84 : decode cL_acts 84 = .ok (.irem, 1) := by decide +kernel
theorem dL_acts_85 : decode cL_acts 85 = .ok (.iadd, 1) := by decide +kernel
theorem dL_acts_86 : decode cL_acts 86 = .ok (.istore 10, 2) := by decide +kernel
theorem dL_acts_88 : decode cL_acts 88 = .ok (.aload_n 1, 1) := by decide +kernel
theorem dL_acts_89 : decode cL_acts 89 = .ok (.iconst 1, 1) := by decide +kernel
theorem dL_acts_90 : decode cL_acts 90 = .ok (.iaload, 1) := by decide +kernel
theorem dL_acts_91 : decode cL_acts 91 = .ok (.bipush 10, 2) := by decide +kernel
theorem dL_acts_93 : decode cL_acts 93 = .ok (.if_icmp .ne 24, 3) := by decide +kernel
theorem dL_acts_96 : decode cL_acts 96 = .ok (.aload_n 0, 1) := by decide +kernel
theorem dL_acts_97 : decode cL_acts 97 = .ok (.iload 8, 2) := by decide +kernel
theorem dL_acts_99 : decode cL_acts 99 = .ok (.iload 9, 2) := by decide +kernel
theorem dL_acts_101 : decode cL_acts 101 = .ok (.iload 10, 2) := by decide +kernel
theorem dL_acts_103 : decode cL_acts 103 = .ok (.invokevirtual 58, 3) := by decide +kernel
theorem dL_acts_106 : decode cL_acts 106 = .ok (.ldc 36, 2) := by decide +kernel
theorem dL_acts_108 : decode cL_acts 108 = .ok (.if_icmp .ne 7, 3) := by decide +kernel
theorem dL_acts_111 : decode cL_acts 111 = .ok (.iconst 1, 1) := by decide +kernel
theorem dL_acts_112 : decode cL_acts 112 = .ok (.goto 4, 3) := by decide +kernel
theorem dL_acts_115 : decode cL_acts 115 = .ok (.iconst 0, 1) := by decide +kernel
theorem dL_acts_116 : decode cL_acts 116 = .ok (.ireturn, 1) := by decide +kernel
theorem dL_acts_117 : decode cL_acts 117 = .ok (.bipush 6, 2) := by decide +kernel
theorem dL_acts_119 : decode cL_acts 119 = .ok (.aload_n 1, 1) := by decide +kernel
theorem dL_acts_120 : decode cL_acts 120 = .ok (.iconst 1, 1) := by decide +kernel
theorem dL_acts_121 : decode cL_acts 121 = .ok (.iaload, 1) := by decide +kernel
theorem dL_acts_122 : decode cL_acts 122 = .ok (.imul, 1) := by decide +kernel
theorem dL_acts_123 : decode cL_acts 123 = .ok (.istore 11, 2) := by decide +kernel
theorem dL_acts_125 : decode cL_acts 125 = .ok (.aload_n 3, 1) := by decide +kernel
theorem dL_acts_126 : decode cL_acts 126 = .ok (.iload 11, 2) := by decide +kernel
theorem dL_acts_128 : decode cL_acts 128 = .ok (.aload_n 1, 1) := by decide +kernel
theorem dL_acts_129 : decode cL_acts 129 = .ok (.iconst 2, 1) := by decide +kernel
theorem dL_acts_130 : decode cL_acts 130 = .ok (.iaload, 1) := by decide +kernel
theorem dL_acts_131 : decode cL_acts 131 = .ok (.iastore, 1) := by decide +kernel
theorem dL_acts_132 : decode cL_acts 132 = .ok (.aload_n 3, 1) := by decide +kernel
theorem dL_acts_133 : decode cL_acts 133 = .ok (.iload 11, 2) := by decide +kernel
theorem dL_acts_135 : decode cL_acts 135 = .ok (.iconst 1, 1) := by decide +kernel
theorem dL_acts_136 : decode cL_acts 136 = .ok (.iadd, 1) := by decide +kernel
theorem dL_acts_137 : decode cL_acts 137 = .ok (.iload 8, 2) := by decide +kernel
theorem dL_acts_139 : decode cL_acts 139 = .ok (.iastore, 1) := by decide +kernel
theorem dL_acts_140 : decode cL_acts 140 = .ok (.aload_n 3, 1) := by decide +kernel
theorem dL_acts_141 : decode cL_acts 141 = .ok (.iload 11, 2) := by decide +kernel
theorem dL_acts_143 : decode cL_acts 143 = .ok (.iconst 2, 1) := by decide +kernel
theorem dL_acts_144 : decode cL_acts 144 = .ok (.iadd, 1) := by decide +kernel
theorem dL_acts_145 : decode cL_acts 145 = .ok (.aload_n 1, 1) := by decide +kernel
theorem dL_acts_146 : decode cL_acts 146 = .ok (.iconst 3, 1) := by decide +kernel
theorem dL_acts_147 : decode cL_acts 147 = .ok (.iaload, 1) := by decide +kernel
theorem dL_acts_148 : decode cL_acts 148 = .ok (.iload 9, 2) := by decide +kernel
theorem dL_acts_150 : decode cL_acts 150 = .ok (.iadd, 1) := by decide +kernel
theorem dL_acts_151 : decode cL_acts 151 = .ok (.iastore, 1) := by decide +kernel
theorem dL_acts_152 : decode cL_acts 152 = .ok (.aload_n 3, 1) := by decide +kernel
theorem dL_acts_153 : decode cL_acts 153 = .ok (.iload 11, 2) := by decide +kernel
theorem dL_acts_155 : decode cL_acts 155 = .ok (.iconst 3, 1) := by decide +kernel
theorem dL_acts_156 : decode cL_acts 156 = .ok (.iadd, 1) := by decide +kernel
theorem dL_acts_157 : decode cL_acts 157 = .ok (.iload 10, 2) := by decide +kernel
theorem dL_acts_159 : decode cL_acts 159 = .ok (.iastore, 1) := by decide +kernel
theorem dL_acts_160 : decode cL_acts 160 = .ok (.aload_n 3, 1) := by decide +kernel
theorem dL_acts_161 : decode cL_acts 161 = .ok (.iload 11, 2) := by decide +kernel
theorem dL_acts_163 : decode cL_acts 163 = .ok (.iconst 4, 1) := by decide +kernel
theorem dL_acts_164 : decode cL_acts 164 = .ok (.iadd, 1) := by decide +kernel
theorem dL_acts_165 : decode cL_acts 165 = .ok (.iconst 0, 1) := by decide +kernel
theorem dL_acts_166 : decode cL_acts 166 = .ok (.iastore, 1) := by decide +kernel
theorem dL_acts_167 : decode cL_acts 167 = .ok (.aload_n 3, 1) := by decide +kernel
theorem dL_acts_168 : decode cL_acts 168 = .ok (.iload 11, 2) := by decide +kernel
theorem dL_acts_170 : decode cL_acts 170 = .ok (.iconst 5, 1) := by decide +kernel
theorem dL_acts_171 : decode cL_acts 171 = .ok (.iadd, 1) := by decide +kernel
theorem dL_acts_172 : decode cL_acts 172 = .ok (.iconst 0, 1) := by decide +kernel
theorem dL_acts_173 : decode cL_acts 173 = .ok (.iastore, 1) := by decide +kernel
theorem dL_acts_174 : decode cL_acts 174 = .ok (.aload_n 1, 1) := by decide +kernel
theorem dL_acts_175 : decode cL_acts 175 = .ok (.iconst 1, 1) := by decide +kernel
theorem dL_acts_176 : decode cL_acts 176 = .ok (.dup2, 1) := by decide +kernel
theorem dL_acts_177 : decode cL_acts 177 = .ok (.iaload, 1) := by decide +kernel
theorem dL_acts_178 : decode cL_acts 178 = .ok (.iconst 1, 1) := by decide +kernel
theorem dL_acts_179 : decode cL_acts 179 = .ok (.iadd, 1) := by decide +kernel
theorem dL_acts_180 : decode cL_acts 180 = .ok (.iastore, 1) := by decide +kernel
theorem dL_acts_181 : decode cL_acts 181 = .ok (.aload_n 1, 1) := by decide +kernel
theorem dL_acts_182 : decode cL_acts 182 = .ok (.iconst 2, 1) := by decide +kernel
theorem dL_acts_183 : decode cL_acts 183 = .ok (.dup2, 1) := by decide +kernel
theorem dL_acts_184 : decode cL_acts 184 = .ok (.iaload, 1) := by decide +kernel
theorem dL_acts_185 : decode cL_acts 185 = .ok (.iconst 1, 1) := by decide +kernel
theorem dL_acts_186 : decode cL_acts 186 = .ok (.iadd, 1) := by decide +kernel
theorem dL_acts_187 : decode cL_acts 187 = .ok (.iastore, 1) := by decide +kernel
theorem dL_acts_188 : decode cL_acts 188 = .ok (.aload_n 0, 1) := by decide +kernel
theorem dL_acts_189 : decode cL_acts 189 = .ok (.iload 8, 2) := by decide +kernel
theorem dL_acts_191 : decode cL_acts 191 = .ok (.iload 9, 2) := by decide +kernel
theorem dL_acts_193 : decode cL_acts 193 = .ok (.iload 10, 2) := by decide +kernel
theorem dL_acts_195 : decode cL_acts 195 = .ok (.invokevirtual 58, 3) := by decide +kernel
theorem dL_acts_198 : decode cL_acts 198 = .ok (.aload_n 1, 1) := by decide +kernel
theorem dL_acts_199 : decode cL_acts 199 = .ok (.iconst 2, 1) := by decide +kernel
theorem dL_acts_200 : decode cL_acts 200 = .ok (.iaload, 1) := by decide +kernel
theorem dL_acts_201 : decode cL_acts 201 = .ok (.iconst 1, 1) := by decide +kernel
theorem dL_acts_202 : decode cL_acts 202 = .ok (.isub, 1) := by decide +kernel
theorem dL_acts_203 : decode cL_acts 203 = .ok (.if_icmp .ne 7, 3) := by decide +kernel
theorem dL_acts_206 : decode cL_acts 206 = .ok (.iconst 1, 1) := by decide +kernel
theorem dL_acts_207 : decode cL_acts 207 = .ok (.goto 4, 3) := by decide +kernel
theorem dL_acts_210 : decode cL_acts 210 = .ok (.iconst 0, 1) := by decide +kernel
theorem dL_acts_211 : decode cL_acts 211 = .ok (.ireturn, 1) := by decide +kernel
theorem dL_acts_212 : decode cL_acts 212 = .ok (.iload 7, 2) := by decide +kernel
theorem dL_acts_214 : decode cL_acts 214 = .ok (.bipush 18, 2) := by decide +kernel
theorem dL_acts_216 : decode cL_acts 216 = .ok (.if_icmp .ne 78, 3) := by decide +kernel
theorem dL_acts_219 : decode cL_acts 219 = .ok (.aload_n 1, 1) := by decide +kernel
theorem dL_acts_220 : decode cL_acts 220 = .ok (.iconst 1, 1) := by decide +kernel
theorem dL_acts_221 : decode cL_acts 221 = .ok (.iaload, 1) := by decide +kernel
theorem dL_acts_222 : decode cL_acts 222 = .ok (.ifCond .ne 19, 3) := by decide +kernel
theorem dL_acts_225 : decode cL_acts 225 = .ok (.aload_n 0, 1) := by decide +kernel
theorem dL_acts_226 : decode cL_acts 226 = .ok (.iconst 0, 1) := by decide +kernel
theorem dL_acts_227 : decode cL_acts 227 = .ok (.invokevirtual 62, 3) := by decide +kernel
theorem dL_acts_230 : decode cL_acts 230 = .ok (.ldc 40, 2) := by decide +kernel
theorem dL_acts_232 : decode cL_acts 232 = .ok (.if_icmp .ne 7, 3) := by decide +kernel
theorem dL_acts_235 : decode cL_acts 235 = .ok (.iconst 1, 1) := by decide +kernel
theorem dL_acts_236 : decode cL_acts 236 = .ok (.goto 4, 3) := by decide +kernel
theorem dL_acts_239 : decode cL_acts 239 = .ok (.iconst 0, 1) := by decide +kernel
theorem dL_acts_240 : decode cL_acts 240 = .ok (.ireturn, 1) := by decide +kernel
theorem dL_acts_241 : decode cL_acts 241 = .ok (.aload_n 3, 1) := by decide +kernel
theorem dL_acts_242 : decode cL_acts 242 = .ok (.bipush 6, 2) := by decide +kernel
theorem dL_acts_244 : decode cL_acts 244 = .ok (.iload 6, 2) := by decide +kernel
theorem dL_acts_246 : decode cL_acts 246 = .ok (.aload_n 1, 1) := by decide +kernel
theorem dL_acts_247 : decode cL_acts 247 = .ok (.iconst 1, 1) := by decide +kernel
theorem dL_acts_248 : decode cL_acts 248 = .ok (.iaload, 1) := by decide +kernel
theorem dL_acts_249 : decode cL_acts 249 = .ok (.irem, 1) := by decide +kernel
theorem dL_acts_250 : decode cL_acts 250 = .ok (.imul, 1) := by decide +kernel
theorem dL_acts_251 : decode cL_acts 251 = .ok (.iaload, 1) := by decide +kernel
theorem dL_acts_252 : decode cL_acts 252 = .ok (.istore 8, 2) := by decide +kernel
theorem dL_acts_254 : decode cL_acts 254 = .ok (.aload_n 1, 1) := by decide +kernel
theorem dL_acts_255 : decode cL_acts 255 = .ok (.aload_n 3, 1) := by decide +kernel
theorem dL_acts_256 : decode cL_acts 256 = .ok (.iload 6, 2) := by decide +kernel
theorem dL_acts_258 : decode cL_acts 258 = .ok (.aload_n 1, 1) := by decide +kernel
theorem dL_acts_259 : decode cL_acts 259 = .ok (.iconst 1, 1) := by decide +kernel
theorem dL_acts_260 : decode cL_acts 260 = .ok (.iaload, 1) := by decide +kernel
theorem dL_acts_261 : decode cL_acts 261 = .ok (.irem, 1) := by decide +kernel
theorem dL_acts_262 : decode cL_acts 262 = .ok (.invokestatic 26, 3) := by decide +kernel
theorem dL_acts_265 : decode cL_acts 265 = .ok (.aload_n 0, 1) := by decide +kernel
theorem dL_acts_266 : decode cL_acts 266 = .ok (.iload 8, 2) := by decide +kernel
theorem dL_acts_268 : decode cL_acts 268 = .ok (.invokevirtual 62, 3) := by decide +kernel
theorem dL_acts_271 : decode cL_acts 271 = .ok (.aload_n 1, 1) := by decide +kernel
theorem dL_acts_272 : decode cL_acts 272 = .ok (.iconst 1, 1) := by decide +kernel
theorem dL_acts_273 : decode cL_acts 273 = .ok (.iaload, 1) := by decide +kernel
theorem dL_acts_274 : decode cL_acts 274 = .ok (.if_icmp .ne 18, 3) := by decide +kernel
theorem dL_acts_277 : decode cL_acts 277 = .ok (.aload_n 0, 1) := by decide +kernel
theorem dL_acts_278 : decode cL_acts 278 = .ok (.iload 8, 2) := by decide +kernel
theorem dL_acts_280 : decode cL_acts 280 = .ok (.invokevirtual 62, 3) := by decide +kernel
theorem dL_acts_283 : decode cL_acts 283 = .ok (.ldc 40, 2) := by decide +kernel
theorem dL_acts_285 : decode cL_acts 285 = .ok (.if_icmp .ne 7, 3) := by decide +kernel
theorem dL_acts_288 : decode cL_acts 288 = .ok (.iconst 1, 1) := by decide +kernel
theorem dL_acts_289 : decode cL_acts 289 = .ok (.goto 4, 3) := by decide +kernel
theorem dL_acts_292 : decode cL_acts 292 = .ok (.iconst 0, 1) := by decide +kernel
theorem dL_acts_293 : decode cL_acts 293 = .ok (.ireturn, 1) := by decide +kernel
theorem dL_acts_294 : decode cL_acts 294 = .ok (.iload 7, 2) := by decide +kernel
theorem dL_acts_296 : decode cL_acts 296 = .ok (.bipush 21, 2) := by decide +kernel
theorem dL_acts_298 : decode cL_acts 298 = .ok (.if_icmp .ge 140, 3) := by decide +kernel
theorem dL_acts_301 : decode cL_acts 301 = .ok (.aload_n 1, 1) := by decide +kernel
theorem dL_acts_302 : decode cL_acts 302 = .ok (.iconst 5, 1) := by decide +kernel
theorem dL_acts_303 : decode cL_acts 303 = .ok (.iaload, 1) := by decide +kernel
theorem dL_acts_304 : decode cL_acts 304 = .ok (.aload_n 1, 1) := by decide +kernel
theorem dL_acts_305 : decode cL_acts 305 = .ok (.bipush 6, 2) := by decide +kernel
theorem dL_acts_307 : decode cL_acts 307 = .ok (.iaload, 1) := by decide +kernel
theorem dL_acts_308 : decode cL_acts 308 = .ok (.if_icmp .ge 9, 3) := by decide +kernel
theorem dL_acts_311 : decode cL_acts 311 = .ok (.aload_n 1, 1) := by decide +kernel
theorem dL_acts_312 : decode cL_acts 312 = .ok (.iconst 5, 1) := by decide +kernel
theorem dL_acts_313 : decode cL_acts 313 = .ok (.iaload, 1) := by decide +kernel
theorem dL_acts_314 : decode cL_acts 314 = .ok (.goto 7, 3) := by decide +kernel
theorem dL_acts_317 : decode cL_acts 317 = .ok (.aload_n 1, 1) := by decide +kernel
theorem dL_acts_318 : decode cL_acts 318 = .ok (.bipush 6, 2) := by decide +kernel
theorem dL_acts_320 : decode cL_acts 320 = .ok (.iaload, 1) := by decide +kernel
theorem dL_acts_321 : decode cL_acts 321 = .ok (.istore 8, 2) := by decide +kernel
theorem dL_acts_323 : decode cL_acts 323 = .ok (.iload 6, 2) := by decide +kernel
theorem dL_acts_325 : decode cL_acts 325 = .ok (.iconst 3, 1) := by decide +kernel
theorem dL_acts_326 : decode cL_acts 326 = .ok (.irem, 1) := by decide +kernel
theorem dL_acts_327 : decode cL_acts 327 = .ok (.ifCond .eq 8, 3) := by decide +kernel
theorem dL_acts_330 : decode cL_acts 330 = .ok (.iload 8, 2) := by decide +kernel
theorem dL_acts_332 : decode cL_acts 332 = .ok (.ifCond .ne 14, 3) := by decide +kernel
theorem dL_acts_335 : decode cL_acts 335 = .ok (.iconst 1, 1) := by decide +kernel
theorem dL_acts_336 : decode cL_acts 336 = .ok (.iload 6, 2) := by decide +kernel
theorem dL_acts_338 : decode cL_acts 338 = .ok (.sipush 500, 3) := by decide +kernel
theorem dL_acts_341 : decode cL_acts 341 = .ok (.irem, 1) := by decide +kernel
theorem dL_acts_342 : decode cL_acts 342 = .ok (.iadd, 1) := by decide +kernel
theorem dL_acts_343 : decode cL_acts 343 = .ok (.goto 24, 3) := by decide +kernel
theorem dL_acts_346 : decode cL_acts 346 = .ok (.iconst 1, 1) := by decide +kernel
theorem dL_acts_347 : decode cL_acts 347 = .ok (.iload 6, 2) := by decide +kernel
theorem dL_acts_349 : decode cL_acts 349 = .ok (.iload 8, 2) := by decide +kernel
theorem dL_acts_351 : decode cL_acts 351 = .ok (.sipush 500, 3) := by decide +kernel
theorem dL_acts_354 : decode cL_acts 354 = .ok (.if_icmp .le 9, 3) := by decide +kernel
theorem dL_acts_357 : decode cL_acts 357 = .ok (.sipush 500, 3) := by decide +kernel
theorem dL_acts_360 : decode cL_acts 360 = .ok (.goto 5, 3) := by decide +kernel
theorem dL_acts_363 : decode cL_acts 363 = .ok (.iload 8, 2) := by decide +kernel
theorem dL_acts_365 : decode cL_acts 365 = .ok (.irem, 1) := by decide +kernel
theorem dL_acts_366 : decode cL_acts 366 = .ok (.iadd, 1) := by decide +kernel
theorem dL_acts_367 : decode cL_acts 367 = .ok (.istore 9, 2) := by decide +kernel
theorem dL_acts_369 : decode cL_acts 369 = .ok (.iload 9, 2) := by decide +kernel
theorem dL_acts_371 : decode cL_acts 371 = .ok (.iload 8, 2) := by decide +kernel
theorem dL_acts_373 : decode cL_acts 373 = .ok (.if_icmp .le 20, 3) := by decide +kernel
theorem dL_acts_376 : decode cL_acts 376 = .ok (.aload_n 0, 1) := by decide +kernel
theorem dL_acts_377 : decode cL_acts 377 = .ok (.iload 9, 2) := by decide +kernel
theorem dL_acts_379 : decode cL_acts 379 = .ok (.invokevirtual 65, 3) := by decide +kernel
theorem dL_acts_382 : decode cL_acts 382 = .ok (.ldc 45, 2) := by decide +kernel
theorem dL_acts_384 : decode cL_acts 384 = .ok (.if_icmp .ne 7, 3) := by decide +kernel
theorem dL_acts_387 : decode cL_acts 387 = .ok (.iconst 1, 1) := by decide +kernel
theorem dL_acts_388 : decode cL_acts 388 = .ok (.goto 4, 3) := by decide +kernel
theorem dL_acts_391 : decode cL_acts 391 = .ok (.iconst 0, 1) := by decide +kernel
theorem dL_acts_392 : decode cL_acts 392 = .ok (.ireturn, 1) := by decide +kernel
theorem dL_acts_393 : decode cL_acts 393 = .ok (.aload_n 1, 1) := by decide +kernel
theorem dL_acts_394 : decode cL_acts 394 = .ok (.iconst 5, 1) := by decide +kernel
theorem dL_acts_395 : decode cL_acts 395 = .ok (.dup2, 1) := by decide +kernel
theorem dL_acts_396 : decode cL_acts 396 = .ok (.iaload, 1) := by decide +kernel
theorem dL_acts_397 : decode cL_acts 397 = .ok (.iload 9, 2) := by decide +kernel
theorem dL_acts_399 : decode cL_acts 399 = .ok (.isub, 1) := by decide +kernel
theorem dL_acts_400 : decode cL_acts 400 = .ok (.iastore, 1) := by decide +kernel
theorem dL_acts_401 : decode cL_acts 401 = .ok (.aload_n 1, 1) := by decide +kernel
theorem dL_acts_402 : decode cL_acts 402 = .ok (.bipush 6, 2) := by decide +kernel
theorem dL_acts_404 : decode cL_acts 404 = .ok (.dup2, 1) := by decide +kernel
theorem dL_acts_405 : decode cL_acts 405 = .ok (.iaload, 1) := by decide +kernel
theorem dL_acts_406 : decode cL_acts 406 = .ok (.iload 9, 2) := by decide +kernel
theorem dL_acts_408 : decode cL_acts 408 = .ok (.isub, 1) := by decide +kernel
theorem dL_acts_409 : decode cL_acts 409 = .ok (.iastore, 1) := by decide +kernel
theorem dL_acts_410 : decode cL_acts 410 = .ok (.aload_n 1, 1) := by decide +kernel
theorem dL_acts_411 : decode cL_acts 411 = .ok (.bipush 14, 2) := by decide +kernel
theorem dL_acts_413 : decode cL_acts 413 = .ok (.dup2, 1) := by decide +kernel
theorem dL_acts_414 : decode cL_acts 414 = .ok (.iaload, 1) := by decide +kernel
theorem dL_acts_415 : decode cL_acts 415 = .ok (.iload 9, 2) := by decide +kernel
theorem dL_acts_417 : decode cL_acts 417 = .ok (.iadd, 1) := by decide +kernel
theorem dL_acts_418 : decode cL_acts 418 = .ok (.iastore, 1) := by decide +kernel
theorem dL_acts_419 : decode cL_acts 419 = .ok (.aload_n 0, 1) := by decide +kernel
theorem dL_acts_420 : decode cL_acts 420 = .ok (.iload 9, 2) := by decide +kernel
theorem dL_acts_422 : decode cL_acts 422 = .ok (.invokevirtual 65, 3) := by decide +kernel
theorem dL_acts_425 : decode cL_acts 425 = .ok (.aload_n 1, 1) := by decide +kernel
theorem dL_acts_426 : decode cL_acts 426 = .ok (.bipush 6, 2) := by decide +kernel
theorem dL_acts_428 : decode cL_acts 428 = .ok (.iaload, 1) := by decide +kernel
theorem dL_acts_429 : decode cL_acts 429 = .ok (.if_icmp .ne 7, 3) := by decide +kernel
theorem dL_acts_432 : decode cL_acts 432 = .ok (.iconst 1, 1) := by decide +kernel
theorem dL_acts_433 : decode cL_acts 433 = .ok (.goto 4, 3) := by decide +kernel
theorem dL_acts_436 : decode cL_acts 436 = .ok (.iconst 0, 1) := by decide +kernel
theorem dL_acts_437 : decode cL_acts 437 = .ok (.ireturn, 1) := by decide +kernel
theorem dL_acts_438 : decode cL_acts 438 = .ok (.iload 7, 2) := by decide +kernel
theorem dL_acts_440 : decode cL_acts 440 = .ok (.bipush 30, 2) := by decide +kernel
theorem dL_acts_442 : decode cL_acts 442 = .ok (.if_icmp .ge 104, 3) := by decide +kernel
theorem dL_acts_445 : decode cL_acts 445 = .ok (.iconst 1, 1) := by decide +kernel
theorem dL_acts_446 : decode cL_acts 446 = .ok (.iload 6, 2) := by decide +kernel
theorem dL_acts_448 : decode cL_acts 448 = .ok (.iload 6, 2) := by decide +kernel
theorem dL_acts_450 : decode cL_acts 450 = .ok (.iconst 5, 1) := by decide +kernel
theorem dL_acts_451 : decode cL_acts 451 = .ok (.irem, 1) := by decide +kernel
theorem dL_acts_452 : decode cL_acts 452 = .ok (.ifCond .ne 8, 3) := by decide +kernel
theorem dL_acts_455 : decode cL_acts 455 = .ok (.bipush 60, 2) := by decide +kernel
theorem dL_acts_457 : decode cL_acts 457 = .ok (.goto 4, 3) := by decide +kernel
theorem dL_acts_460 : decode cL_acts 460 = .ok (.iconst 4, 1) := by decide +kernel
theorem dL_acts_461 : decode cL_acts 461 = .ok (.irem, 1) := by decide +kernel
theorem dL_acts_462 : decode cL_acts 462 = .ok (.iadd, 1) := by decide +kernel
theorem dL_acts_463 : decode cL_acts 463 = .ok (.istore 8, 2) := by decide +kernel
theorem dL_acts_465 : decode cL_acts 465 = .ok (.aload_n 1, 1) := by decide +kernel
theorem dL_acts_466 : decode cL_acts 466 = .ok (.iconst 3, 1) := by decide +kernel
theorem dL_acts_467 : decode cL_acts 467 = .ok (.iaload, 1) := by decide +kernel
theorem dL_acts_468 : decode cL_acts 468 = .ok (.iload 8, 2) := by decide +kernel
theorem dL_acts_470 : decode cL_acts 470 = .ok (.iadd, 1) := by decide +kernel
theorem dL_acts_471 : decode cL_acts 471 = .ok (.sipush 9999, 3) := by decide +kernel
theorem dL_acts_474 : decode cL_acts 474 = .ok (.if_icmp .le 20, 3) := by decide +kernel
theorem dL_acts_477 : decode cL_acts 477 = .ok (.aload_n 0, 1) := by decide +kernel
theorem dL_acts_478 : decode cL_acts 478 = .ok (.iload 8, 2) := by decide +kernel
theorem dL_acts_480 : decode cL_acts 480 = .ok (.invokevirtual 68, 3) := by decide +kernel
theorem dL_acts_483 : decode cL_acts 483 = .ok (.ldc 36, 2) := by decide +kernel
theorem dL_acts_485 : decode cL_acts 485 = .ok (.if_icmp .ne 7, 3) := by decide +kernel
theorem dL_acts_488 : decode cL_acts 488 = .ok (.iconst 1, 1) := by decide +kernel
theorem dL_acts_489 : decode cL_acts 489 = .ok (.goto 4, 3) := by decide +kernel
theorem dL_acts_492 : decode cL_acts 492 = .ok (.iconst 0, 1) := by decide +kernel
theorem dL_acts_493 : decode cL_acts 493 = .ok (.ireturn, 1) := by decide +kernel
theorem dL_acts_494 : decode cL_acts 494 = .ok (.aload_n 1, 1) := by decide +kernel
theorem dL_acts_495 : decode cL_acts 495 = .ok (.bipush 8, 2) := by decide +kernel
theorem dL_acts_497 : decode cL_acts 497 = .ok (.iaload, 1) := by decide +kernel
theorem dL_acts_498 : decode cL_acts 498 = .ok (.istore 9, 2) := by decide +kernel
theorem dL_acts_500 : decode cL_acts 500 = .ok (.iconst 0, 1) := by decide +kernel
theorem dL_acts_501 : decode cL_acts 501 = .ok (.istore 10, 2) := by decide +kernel
theorem dL_acts_503 : decode cL_acts 503 = .ok (.iload 10, 2) := by decide +kernel
theorem dL_acts_505 : decode cL_acts 505 = .ok (.iload 8, 2) := by decide +kernel
theorem dL_acts_507 : decode cL_acts 507 = .ok (.if_icmp .ge 17, 3) := by decide +kernel
theorem dL_acts_510 : decode cL_acts 510 = .ok (.aload_n 1, 1) := by decide +kernel
theorem dL_acts_511 : decode cL_acts 511 = .ok (.aload_n 2, 1) := by decide +kernel
theorem dL_acts_512 : decode cL_acts 512 = .ok (.aload_n 3, 1) := by decide +kernel
theorem dL_acts_513 : decode cL_acts 513 = .ok (.aload 4, 2) := by decide +kernel
theorem dL_acts_515 : decode cL_acts 515 = .ok (.invokestatic 71, 3) := by decide +kernel
theorem dL_acts_518 : decode cL_acts 518 = .ok (.iinc 10 1, 3) := by decide +kernel
theorem dL_acts_521 : decode cL_acts 521 = .ok (.goto (-18), 3) := by decide +kernel
theorem dL_acts_524 : decode cL_acts 524 = .ok (.aload_n 0, 1) := by decide +kernel
theorem dL_acts_525 : decode cL_acts 525 = .ok (.iload 8, 2) := by decide +kernel
theorem dL_acts_527 : decode cL_acts 527 = .ok (.invokevirtual 68, 3) := by decide +kernel
theorem dL_acts_530 : decode cL_acts 530 = .ok (.aload_n 1, 1) := by decide +kernel
theorem dL_acts_531 : decode cL_acts 531 = .ok (.bipush 8, 2) := by decide +kernel
theorem dL_acts_533 : decode cL_acts 533 = .ok (.iaload, 1) := by decide +kernel
theorem dL_acts_534 : decode cL_acts 534 = .ok (.iload 9, 2) := by decide +kernel
theorem dL_acts_536 : decode cL_acts 536 = .ok (.isub, 1) := by decide +kernel
theorem dL_acts_537 : decode cL_acts 537 = .ok (.if_icmp .ne 7, 3) := by decide +kernel
theorem dL_acts_540 : decode cL_acts 540 = .ok (.iconst 1, 1) := by decide +kernel
theorem dL_acts_541 : decode cL_acts 541 = .ok (.goto 4, 3) := by decide +kernel
theorem dL_acts_544 : decode cL_acts 544 = .ok (.iconst 0, 1) := by decide +kernel
theorem dL_acts_545 : decode cL_acts 545 = .ok (.ireturn, 1) := by decide +kernel
theorem dL_acts_546 : decode cL_acts 546 = .ok (.iload 6, 2) := by decide +kernel
theorem dL_acts_548 : decode cL_acts 548 = .ok (.iconst 4, 1) := by decide +kernel
theorem dL_acts_549 : decode cL_acts 549 = .ok (.irem, 1) := by decide +kernel
theorem dL_acts_550 : decode cL_acts 550 = .ok (.istore 8, 2) := by decide +kernel
theorem dL_acts_552 : decode cL_acts 552 = .ok (.aload_n 1, 1) := by decide +kernel
theorem dL_acts_553 : decode cL_acts 553 = .ok (.bipush 15, 2) := by decide +kernel
theorem dL_acts_555 : decode cL_acts 555 = .ok (.iload 8, 2) := by decide +kernel
theorem dL_acts_557 : decode cL_acts 557 = .ok (.iadd, 1) := by decide +kernel
theorem dL_acts_558 : decode cL_acts 558 = .ok (.iaload, 1) := by decide +kernel
theorem dL_acts_559 : decode cL_acts 559 = .ok (.istore 9, 2) := by decide +kernel
theorem dL_acts_561 : decode cL_acts 561 = .ok (.aload_n 1, 1) := by decide +kernel
theorem dL_acts_562 : decode cL_acts 562 = .ok (.bipush 15, 2) := by decide +kernel
theorem dL_acts_564 : decode cL_acts 564 = .ok (.iload 8, 2) := by decide +kernel
theorem dL_acts_566 : decode cL_acts 566 = .ok (.iadd, 1) := by decide +kernel
theorem dL_acts_567 : decode cL_acts 567 = .ok (.iload 8, 2) := by decide +kernel
theorem dL_acts_569 : decode cL_acts 569 = .ok (.ifCond .ne 15, 3) := by decide +kernel
theorem dL_acts_572 : decode cL_acts 572 = .ok (.iconst 1, 1) := by decide +kernel
theorem dL_acts_573 : decode cL_acts 573 = .ok (.iload 6, 2) := by decide +kernel
theorem dL_acts_575 : decode cL_acts 575 = .ok (.iconst 4, 1) := by decide +kernel
theorem dL_acts_576 : decode cL_acts 576 = .ok (.idiv, 1) := by decide +kernel
theorem dL_acts_577 : decode cL_acts 577 = .ok (.bipush 9, 2) := by decide +kernel
theorem dL_acts_579 : decode cL_acts 579 = .ok (.irem, 1) := by decide +kernel
theorem dL_acts_580 : decode cL_acts 580 = .ok (.iadd, 1) := by decide +kernel
theorem dL_acts_581 : decode cL_acts 581 = .ok (.goto 46, 3) := by decide +kernel
theorem dL_acts_584 : decode cL_acts 584 = .ok (.iload 8, 2) := by decide +kernel
theorem dL_acts_586 : decode cL_acts 586 = .ok (.iconst 1, 1) := by decide +kernel
theorem dL_acts_587 : decode cL_acts 587 = .ok (.if_icmp .ne 17, 3) := by decide +kernel
theorem dL_acts_590 : decode cL_acts 590 = .ok (.bipush 10, 2) := by decide +kernel
theorem dL_acts_592 : decode cL_acts 592 = .ok (.iload 6, 2) := by decide +kernel
theorem dL_acts_594 : decode cL_acts 594 = .ok (.iconst 4, 1) := by decide +kernel
theorem dL_acts_595 : decode cL_acts 595 = .ok (.idiv, 1) := by decide +kernel
theorem dL_acts_596 : decode cL_acts 596 = .ok (.sipush 491, 3) := by decide +kernel
theorem dL_acts_599 : decode cL_acts 599 = .ok (.irem, 1) := by decide +kernel
theorem dL_acts_600 : decode cL_acts 600 = .ok (.iadd, 1) := by decide +kernel
theorem dL_acts_601 : decode cL_acts 601 = .ok (.goto 26, 3) := by decide +kernel
theorem dL_acts_604 : decode cL_acts 604 = .ok (.iload 8, 2) := by decide +kernel
theorem dL_acts_606 : decode cL_acts 606 = .ok (.iconst 2, 1) := by decide +kernel
theorem dL_acts_607 : decode cL_acts 607 = .ok (.if_icmp .ne 13, 3) := by decide +kernel
theorem dL_acts_610 : decode cL_acts 610 = .ok (.iload 6, 2) := by decide +kernel
theorem dL_acts_612 : decode cL_acts 612 = .ok (.iconst 4, 1) := by decide +kernel
theorem dL_acts_613 : decode cL_acts 613 = .ok (.idiv, 1) := by decide +kernel
theorem dL_acts_614 : decode cL_acts 614 = .ok (.bipush 16, 2) := by decide +kernel
theorem dL_acts_616 : decode cL_acts 616 = .ok (.irem, 1) := by decide +kernel
theorem dL_acts_617 : decode cL_acts 617 = .ok (.goto 10, 3) := by decide +kernel
theorem dL_acts_620 : decode cL_acts 620 = .ok (.iload 6, 2) := by decide +kernel
theorem dL_acts_622 : decode cL_acts 622 = .ok (.iconst 4, 1) := by decide +kernel
theorem dL_acts_623 : decode cL_acts 623 = .ok (.idiv, 1) := by decide +kernel
theorem dL_acts_624 : decode cL_acts 624 = .ok (.bipush 91, 2) := by decide +kernel
theorem dL_acts_626 : decode cL_acts 626 = .ok (.irem, 1) := by decide +kernel
theorem dL_acts_627 : decode cL_acts 627 = .ok (.iastore, 1) := by decide +kernel
theorem dL_acts_628 : decode cL_acts 628 = .ok (.aload_n 0, 1) := by decide +kernel
theorem dL_acts_629 : decode cL_acts 629 = .ok (.iload 8, 2) := by decide +kernel
theorem dL_acts_631 : decode cL_acts 631 = .ok (.aload_n 1, 1) := by decide +kernel
theorem dL_acts_632 : decode cL_acts 632 = .ok (.bipush 15, 2) := by decide +kernel
theorem dL_acts_634 : decode cL_acts 634 = .ok (.iload 8, 2) := by decide +kernel
theorem dL_acts_636 : decode cL_acts 636 = .ok (.iadd, 1) := by decide +kernel
theorem dL_acts_637 : decode cL_acts 637 = .ok (.iaload, 1) := by decide +kernel
theorem dL_acts_638 : decode cL_acts 638 = .ok (.invokevirtual 75, 3) := by decide +kernel
theorem dL_acts_641 : decode cL_acts 641 = .ok (.iload 9, 2) := by decide +kernel
theorem dL_acts_643 : decode cL_acts 643 = .ok (.if_icmp .ne 7, 3) := by decide +kernel
theorem dL_acts_646 : decode cL_acts 646 = .ok (.iconst 1, 1) := by decide +kernel
theorem dL_acts_647 : decode cL_acts 647 = .ok (.goto 4, 3) := by decide +kernel
theorem dL_acts_650 : decode cL_acts 650 = .ok (.iconst 0, 1) := by decide +kernel
theorem dL_acts_651 : decode cL_acts 651 = .ok (.ireturn, 1) := by decide +kernel
theorem dL_areMules_0 : decode cL_areMules 0 = .ok (.aload_n 0, 1) := by decide +kernel
theorem dL_areMules_1 : decode cL_areMules 1 = .ok (.aload_n 1, 1) := by decide +kernel
theorem dL_areMules_2 : decode cL_areMules 2 = .ok (.iconst 0, 1) := by decide +kernel
theorem dL_areMules_3 : decode cL_areMules 3 = .ok (.iaload, 1) := by decide +kernel
theorem dL_areMules_4 : decode cL_areMules 4 = .ok (.iconst 0, 1) := by decide +kernel
theorem dL_areMules_5 : decode cL_areMules 5 = .ok (.invokevirtual 78, 3) := by decide +kernel
theorem dL_areMules_8 : decode cL_areMules 8 = .ok (.ldc 40, 2) := by decide +kernel
theorem dL_areMules_10 : decode cL_areMules 10 = .ok (.if_icmp .ne 18, 3) := by decide +kernel
theorem dL_areMules_13 : decode cL_areMules 13 = .ok (.aload_n 0, 1) := by decide +kernel
theorem dL_areMules_14 : decode cL_areMules 14 = .ok (.iconst (-1), 1) := by decide +kernel
theorem dL_areMules_15 : decode cL_areMules 15 = .ok (.iconst 0, 1) := by decide +kernel
theorem dL_areMules_16 : decode cL_areMules 16 = .ok (.invokevirtual 78, 3) := by decide +kernel
theorem dL_areMules_19 : decode cL_areMules 19 = .ok (.ldc 40, 2) := by decide +kernel
theorem dL_areMules_21 : decode cL_areMules 21 = .ok (.if_icmp .ne 7, 3) := by decide +kernel
theorem dL_areMules_24 : decode cL_areMules 24 = .ok (.iconst 1, 1) := by decide +kernel
theorem dL_areMules_25 : decode cL_areMules 25 = .ok (.goto 4, 3) := by decide +kernel
theorem dL_areMules_28 : decode cL_areMules 28 = .ok (.iconst 0, 1) := by decide +kernel
theorem dL_areMules_29 : decode cL_areMules 29 = .ok (.istore_n 3, 1) := by decide +kernel
theorem dL_areMules_30 : decode cL_areMules 30 = .ok (.iconst 0, 1) := by decide +kernel
theorem dL_areMules_31 : decode cL_areMules 31 = .ok (.istore 4, 2) := by decide +kernel
theorem dL_areMules_33 : decode cL_areMules 33 = .ok (.iconst 0, 1) := by decide +kernel
theorem dL_areMules_34 : decode cL_areMules 34 = .ok (.istore 5, 2) := by decide +kernel
theorem dL_areMules_36 : decode cL_areMules 36 = .ok (.iload 5, 2) := by decide +kernel
theorem dL_areMules_38 : decode cL_areMules 38 = .ok (.aload_n 1, 1) := by decide +kernel
theorem dL_areMules_39 : decode cL_areMules 39 = .ok (.iconst 0, 1) := by decide +kernel
theorem dL_areMules_40 : decode cL_areMules 40 = .ok (.iaload, 1) := by decide +kernel
theorem dL_areMules_41 : decode cL_areMules 41 = .ok (.if_icmp .ge 218, 3) := by decide +kernel
theorem dL_areMules_44 : decode cL_areMules 44 = .ok (.iload_n 3, 1) := by decide +kernel
theorem dL_areMules_45 : decode cL_areMules 45 = .ok (.ifCond .eq 214, 3) := by decide +kernel
theorem dL_areMules_48 : decode cL_areMules 48 = .ok (.bipush 9, 2) := by decide +kernel
theorem dL_areMules_50 : decode cL_areMules 50 = .ok (.iload 5, 2) := by decide +kernel
theorem dL_areMules_52 : decode cL_areMules 52 = .ok (.imul, 1) := by decide +kernel
theorem dL_areMules_53 : decode cL_areMules 53 = .ok (.istore 6, 2) := by decide +kernel
theorem dL_areMules_55 : decode cL_areMules 55 = .ok (.iload 4, 2) := by decide +kernel
theorem dL_areMules_57 : decode cL_areMules 57 = .ok (.aload_n 2, 1) := by decide +kernel
theorem dL_areMules_58 : decode cL_areMules 58 = .ok (.iload 6, 2) := by decide +kernel
theorem dL_areMules_60 : decode cL_areMules 60 = .ok (.iconst 4, 1) := by decide +kernel
theorem dL_areMules_61 : decode cL_areMules 61 = .ok (.iadd, 1) := by decide +kernel
theorem dL_areMules_62 : decode cL_areMules 62 = .ok (.iaload, 1) := by decide +kernel
theorem dL_areMules_63 : decode cL_areMules 63 = .ok (.iadd, 1) := by decide +kernel
theorem dL_areMules_64 : decode cL_areMules 64 = .ok (.istore 4, 2) := by decide +kernel
theorem dL_areMules_66 : decode cL_areMules 66 = .ok (.aload_n 0, 1) := by decide +kernel
theorem dL_areMules_67 : decode cL_areMules 67 = .ok (.iload 5, 2) := by decide +kernel
theorem dL_areMules_69 : decode cL_areMules 69 = .ok (.iconst 0, 1) := by decide +kernel
theorem dL_areMules_70 : decode cL_areMules 70 = .ok (.invokevirtual 78, 3) := by decide +kernel
theorem dL_areMules_73 : decode cL_areMules 73 = .ok (.aload_n 2, 1) := by decide +kernel
theorem dL_areMules_74 : decode cL_areMules 74 = .ok (.iload 6, 2) := by decide +kernel
theorem dL_areMules_76 : decode cL_areMules 76 = .ok (.iaload, 1) := by decide +kernel
theorem dL_areMules_77 : decode cL_areMules 77 = .ok (.if_icmp .ne 174, 3) := by decide +kernel
theorem dL_areMules_80 : decode cL_areMules 80 = .ok (.aload_n 0, 1) := by decide +kernel
theorem dL_areMules_81 : decode cL_areMules 81 = .ok (.iload 5, 2) := by decide +kernel
theorem dL_areMules_83 : decode cL_areMules 83 = .ok (.iconst 1, 1) := by decide +kernel
theorem dL_areMules_84 : decode cL_areMules 84 = .ok (.invokevirtual 78, 3) := by decide +kernel
theorem dL_areMules_87 : decode cL_areMules 87 = .ok (.aload_n 2, 1) := by decide +kernel
theorem dL_areMules_88 : decode cL_areMules 88 = .ok (.iload 6, 2) := by decide +kernel
theorem dL_areMules_90 : decode cL_areMules 90 = .ok (.iconst 1, 1) := by decide +kernel
theorem dL_areMules_91 : decode cL_areMules 91 = .ok (.iadd, 1) := by decide +kernel
theorem dL_areMules_92 : decode cL_areMules 92 = .ok (.iaload, 1) := by decide +kernel
theorem dL_areMules_93 : decode cL_areMules 93 = .ok (.if_icmp .ne 158, 3) := by decide +kernel
theorem dL_areMules_96 : decode cL_areMules 96 = .ok (.aload_n 0, 1) := by decide +kernel
theorem dL_areMules_97 : decode cL_areMules 97 = .ok (.iload 5, 2) := by decide +kernel
theorem dL_areMules_99 : decode cL_areMules 99 = .ok (.iconst 2, 1) := by decide +kernel
theorem dL_areMules_100 : decode cL_areMules 100 = .ok (.invokevirtual 78, 3) := by decide +kernel
theorem dL_areMules_103 : decode cL_areMules 103 = .ok (.aload_n 2, 1) := by decide +kernel
theorem dL_areMules_104 : decode cL_areMules 104 = .ok (.iload 6, 2) := by decide +kernel
theorem dL_areMules_106 : decode cL_areMules 106 = .ok (.iconst 2, 1) := by decide +kernel
theorem dL_areMules_107 : decode cL_areMules 107 = .ok (.iadd, 1) := by decide +kernel
theorem dL_areMules_108 : decode cL_areMules 108 = .ok (.iaload, 1) := by decide +kernel
theorem dL_areMules_109 : decode cL_areMules 109 = .ok (.if_icmp .ne 142, 3) := by decide +kernel
theorem dL_areMules_112 : decode cL_areMules 112 = .ok (.aload_n 0, 1) := by decide +kernel
theorem dL_areMules_113 : decode cL_areMules 113 = .ok (.iload 5, 2) := by decide +kernel
theorem dL_areMules_115 : decode cL_areMules 115 = .ok (.iconst 3, 1) := by decide +kernel
theorem dL_areMules_116 : decode cL_areMules 116 = .ok (.invokevirtual 78, 3) := by decide +kernel
theorem dL_areMules_119 : decode cL_areMules 119 = .ok (.aload_n 2, 1) := by decide +kernel
theorem dL_areMules_120 : decode cL_areMules 120 = .ok (.iload 6, 2) := by decide +kernel
theorem dL_areMules_122 : decode cL_areMules 122 = .ok (.iconst 3, 1) := by decide +kernel
theorem dL_areMules_123 : decode cL_areMules 123 = .ok (.iadd, 1) := by decide +kernel
theorem dL_areMules_124 : decode cL_areMules 124 = .ok (.iaload, 1) := by decide +kernel
theorem dL_areMules_125 : decode cL_areMules 125 = .ok (.if_icmp .ne 126, 3) := by decide +kernel
theorem dL_areMules_128 : decode cL_areMules 128 = .ok (.aload_n 0, 1) := by decide +kernel
theorem dL_areMules_129 : decode cL_areMules 129 = .ok (.iload 5, 2) := by decide +kernel
theorem dL_areMules_131 : decode cL_areMules 131 = .ok (.iconst 4, 1) := by decide +kernel
theorem dL_areMules_132 : decode cL_areMules 132 = .ok (.invokevirtual 78, 3) := by decide +kernel
theorem dL_areMules_135 : decode cL_areMules 135 = .ok (.aload_n 2, 1) := by decide +kernel
theorem dL_areMules_136 : decode cL_areMules 136 = .ok (.iload 6, 2) := by decide +kernel
theorem dL_areMules_138 : decode cL_areMules 138 = .ok (.iconst 4, 1) := by decide +kernel
theorem dL_areMules_139 : decode cL_areMules 139 = .ok (.iadd, 1) := by decide +kernel
theorem dL_areMules_140 : decode cL_areMules 140 = .ok (.iaload, 1) := by decide +kernel
theorem dL_areMules_141 : decode cL_areMules 141 = .ok (.if_icmp .ne 110, 3) := by decide +kernel
theorem dL_areMules_144 : decode cL_areMules 144 = .ok (.aload_n 0, 1) := by decide +kernel
theorem dL_areMules_145 : decode cL_areMules 145 = .ok (.iload 5, 2) := by decide +kernel
theorem dL_areMules_147 : decode cL_areMules 147 = .ok (.iconst 5, 1) := by decide +kernel
theorem dL_areMules_148 : decode cL_areMules 148 = .ok (.invokevirtual 78, 3) := by decide +kernel
theorem dL_areMules_151 : decode cL_areMules 151 = .ok (.aload_n 2, 1) := by decide +kernel
theorem dL_areMules_152 : decode cL_areMules 152 = .ok (.iload 6, 2) := by decide +kernel
theorem dL_areMules_154 : decode cL_areMules 154 = .ok (.bipush 6, 2) := by decide +kernel
theorem dL_areMules_156 : decode cL_areMules 156 = .ok (.iadd, 1) := by decide +kernel
theorem dL_areMules_157 : decode cL_areMules 157 = .ok (.iaload, 1) := by decide +kernel
theorem dL_areMules_158 : decode cL_areMules 158 = .ok (.if_icmp .ne 93, 3) := by decide +kernel
theorem dL_areMules_161 : decode cL_areMules 161 = .ok (.aload_n 0, 1) := by decide +kernel
theorem dL_areMules_162 : decode cL_areMules 162 = .ok (.iload 5, 2) := by decide +kernel
theorem dL_areMules_164 : decode cL_areMules 164 = .ok (.bipush 6, 2) := by decide +kernel
theorem dL_areMules_166 : decode cL_areMules 166 = .ok (.invokevirtual 78, 3) := by decide +kernel
theorem dL_areMules_169 : decode cL_areMules 169 = .ok (.aload_n 2, 1) := by decide +kernel
theorem dL_areMules_170 : decode cL_areMules 170 = .ok (.iload 6, 2) := by decide +kernel
theorem dL_areMules_172 : decode cL_areMules 172 = .ok (.bipush 7, 2) := by decide +kernel
theorem dL_areMules_174 : decode cL_areMules 174 = .ok (.iadd, 1) := by decide +kernel
theorem dL_areMules_175 : decode cL_areMules 175 = .ok (.iaload, 1) := by decide +kernel
theorem dL_areMules_176 : decode cL_areMules 176 = .ok (.if_icmp .ne 75, 3) := by decide +kernel
theorem dL_areMules_179 : decode cL_areMules 179 = .ok (.aload_n 0, 1) := by decide +kernel
theorem dL_areMules_180 : decode cL_areMules 180 = .ok (.iload 5, 2) := by decide +kernel
theorem dL_areMules_182 : decode cL_areMules 182 = .ok (.bipush 7, 2) := by decide +kernel
theorem dL_areMules_184 : decode cL_areMules 184 = .ok (.invokevirtual 78, 3) := by decide +kernel
theorem dL_areMules_187 : decode cL_areMules 187 = .ok (.aload_n 2, 1) := by decide +kernel
theorem dL_areMules_188 : decode cL_areMules 188 = .ok (.iload 6, 2) := by decide +kernel
theorem dL_areMules_190 : decode cL_areMules 190 = .ok (.bipush 8, 2) := by decide +kernel
theorem dL_areMules_192 : decode cL_areMules 192 = .ok (.iadd, 1) := by decide +kernel
theorem dL_areMules_193 : decode cL_areMules 193 = .ok (.iaload, 1) := by decide +kernel
theorem dL_areMules_194 : decode cL_areMules 194 = .ok (.if_icmp .ne 57, 3) := by decide +kernel
theorem dL_areMules_197 : decode cL_areMules 197 = .ok (.aload_n 0, 1) := by decide +kernel
theorem dL_areMules_198 : decode cL_areMules 198 = .ok (.iload 5, 2) := by decide +kernel
theorem dL_areMules_200 : decode cL_areMules 200 = .ok (.bipush 8, 2) := by decide +kernel
theorem dL_areMules_202 : decode cL_areMules 202 = .ok (.invokevirtual 78, 3) := by decide +kernel
theorem dL_areMules_205 : decode cL_areMules 205 = .ok (.ldc 40, 2) := by decide +kernel
theorem dL_areMules_207 : decode cL_areMules 207 = .ok (.if_icmp .ne 44, 3) := by decide +kernel
theorem dL_areMules_210 : decode cL_areMules 210 = .ok (.aload_n 2, 1) := by decide +kernel
theorem dL_areMules_211 : decode cL_areMules 211 = .ok (.iload 6, 2) := by decide +kernel
theorem dL_areMules_213 : decode cL_areMules 213 = .ok (.iconst 2, 1) := by decide +kernel
theorem dL_areMules_214 : decode cL_areMules 214 = .ok (.iadd, 1) := by decide +kernel
theorem dL_areMules_215 : decode cL_areMules 215 = .ok (.iaload, 1) := by decide +kernel
theorem dL_areMules_216 : decode cL_areMules 216 = .ok (.ifCond .gt 12, 3) := by decide +kernel
theorem dL_areMules_219 : decode cL_areMules 219 = .ok (.aload_n 2, 1) := by decide +kernel
theorem dL_areMules_220 : decode cL_areMules 220 = .ok (.iload 6, 2) := by decide +kernel
theorem dL_areMules_222 : decode cL_areMules 222 = .ok (.iconst 3, 1) := by decide +kernel
theorem dL_areMules_223 : decode cL_areMules 223 = .ok (.iadd, 1) := by decide +kernel
theorem dL_areMules_224 : decode cL_areMules 224 = .ok (.iaload, 1) := by decide +kernel
theorem dL_areMules_225 : decode cL_areMules 225 = .ok (.ifCond .ne 26, 3) := by decide +kernel
theorem dL_areMules_228 : decode cL_areMules 228 = .ok (.aload_n 2, 1) := by decide +kernel
theorem dL_areMules_229 : decode cL_areMules 229 = .ok (.iload 6, 2) := by decide +kernel
theorem dL_areMules_231 : decode cL_areMules 231 = .ok (.iconst 2, 1) := by decide +kernel
theorem dL_areMules_232 : decode cL_areMules 232 = .ok (.iadd, 1) := by decide +kernel
theorem dL_areMules_233 : decode cL_areMules 233 = .ok (.iaload, 1) := by decide +kernel
theorem dL_areMules_234 : decode cL_areMules 234 = .ok (.iconst 1, 1) := by decide +kernel
theorem dL_areMules_235 : decode cL_areMules 235 = .ok (.if_icmp .eq 12, 3) := by decide +kernel
theorem dL_areMules_238 : decode cL_areMules 238 = .ok (.aload_n 2, 1) := by decide +kernel
theorem dL_areMules_239 : decode cL_areMules 239 = .ok (.iload 6, 2) := by decide +kernel
theorem dL_areMules_241 : decode cL_areMules 241 = .ok (.iconst 4, 1) := by decide +kernel
theorem dL_areMules_242 : decode cL_areMules 242 = .ok (.iadd, 1) := by decide +kernel
theorem dL_areMules_243 : decode cL_areMules 243 = .ok (.iaload, 1) := by decide +kernel
theorem dL_areMules_244 : decode cL_areMules 244 = .ok (.ifCond .ne 7, 3) := by decide +kernel
theorem dL_areMules_247 : decode cL_areMules 247 = .ok (.iconst 1, 1) := by decide +kernel
theorem dL_areMules_248 : decode cL_areMules 248 = .ok (.goto 4, 3) := by decide +kernel
theorem dL_areMules_251 : decode cL_areMules 251 = .ok (.iconst 0, 1) := by decide +kernel
theorem dL_areMules_252 : decode cL_areMules 252 = .ok (.istore_n 3, 1) := by decide +kernel
theorem dL_areMules_253 : decode cL_areMules 253 = .ok (.iinc 5 1, 3) := by decide +kernel
theorem dL_areMules_256 : decode cL_areMules 256 = .ok (.goto (-220), 3) := by decide +kernel
theorem dL_areMules_259 : decode cL_areMules 259 = .ok (.iload_n 3, 1) := by decide +kernel
theorem dL_areMules_260 : decode cL_areMules 260 = .ok (.ifCond .eq 18, 3) := by decide +kernel
theorem dL_areMules_263 : decode cL_areMules 263 = .ok (.aload_n 0, 1) := by decide +kernel
theorem dL_areMules_264 : decode cL_areMules 264 = .ok (.bipush 9, 2) := by decide +kernel
theorem dL_areMules_266 : decode cL_areMules 266 = .ok (.invokevirtual 81, 3) := by decide +kernel
theorem dL_areMules_269 : decode cL_areMules 269 = .ok (.iload 4, 2) := by decide +kernel
theorem dL_areMules_271 : decode cL_areMules 271 = .ok (.if_icmp .ne 7, 3) := by decide +kernel
theorem dL_areMules_274 : decode cL_areMules 274 = .ok (.iconst 1, 1) := by decide +kernel
theorem dL_areMules_275 : decode cL_areMules 275 = .ok (.goto 4, 3) := by decide +kernel
theorem dL_areMules_278 : decode cL_areMules 278 = .ok (.iconst 0, 1) := by decide +kernel
theorem dL_areMules_279 : decode cL_areMules 279 = .ok (.ireturn, 1) := by decide +kernel
theorem dL_areGroups_0 : decode cL_areGroups 0 = .ok (.aload_n 0, 1) := by decide +kernel
theorem dL_areGroups_1 : decode cL_areGroups 1 = .ok (.iconst (-1), 1) := by decide +kernel
theorem dL_areGroups_2 : decode cL_areGroups 2 = .ok (.invokevirtual 84, 3) := by decide +kernel
theorem dL_areGroups_5 : decode cL_areGroups 5 = .ok (.ldc 40, 2) := by decide +kernel
theorem dL_areGroups_7 : decode cL_areGroups 7 = .ok (.if_icmp .ne 43, 3) := by decide +kernel
theorem dL_areGroups_10 : decode cL_areGroups 10 = .ok (.aload_n 0, 1) := by decide +kernel
theorem dL_areGroups_11 : decode cL_areGroups 11 = .ok (.aload_n 1, 1) := by decide +kernel
theorem dL_areGroups_12 : decode cL_areGroups 12 = .ok (.iconst 1, 1) := by decide +kernel
theorem dL_areGroups_13 : decode cL_areGroups 13 = .ok (.iaload, 1) := by decide +kernel
theorem dL_areGroups_14 : decode cL_areGroups 14 = .ok (.invokevirtual 84, 3) := by decide +kernel
theorem dL_areGroups_17 : decode cL_areGroups 17 = .ok (.ldc 87, 2) := by decide +kernel
theorem dL_areGroups_19 : decode cL_areGroups 19 = .ok (.if_icmp .ne 31, 3) := by decide +kernel
theorem dL_areGroups_22 : decode cL_areGroups 22 = .ok (.aload_n 0, 1) := by decide +kernel
theorem dL_areGroups_23 : decode cL_areGroups 23 = .ok (.aload_n 1, 1) := by decide +kernel
theorem dL_areGroups_24 : decode cL_areGroups 24 = .ok (.iconst 2, 1) := by decide +kernel
theorem dL_areGroups_25 : decode cL_areGroups 25 = .ok (.iaload, 1) := by decide +kernel
theorem dL_areGroups_26 : decode cL_areGroups 26 = .ok (.iconst 0, 1) := by decide +kernel
theorem dL_areGroups_27 : decode cL_areGroups 27 = .ok (.invokevirtual 88, 3) := by decide +kernel
theorem dL_areGroups_30 : decode cL_areGroups 30 = .ok (.ldc 40, 2) := by decide +kernel
theorem dL_areGroups_32 : decode cL_areGroups 32 = .ok (.if_icmp .ne 18, 3) := by decide +kernel
theorem dL_areGroups_35 : decode cL_areGroups 35 = .ok (.aload_n 0, 1) := by decide +kernel
theorem dL_areGroups_36 : decode cL_areGroups 36 = .ok (.iconst (-1), 1) := by decide +kernel
theorem dL_areGroups_37 : decode cL_areGroups 37 = .ok (.iconst 0, 1) := by decide +kernel
theorem dL_areGroups_38 : decode cL_areGroups 38 = .ok (.invokevirtual 88, 3) := by decide +kernel
theorem dL_areGroups_41 : decode cL_areGroups 41 = .ok (.ldc 40, 2) := by decide +kernel
theorem dL_areGroups_43 : decode cL_areGroups 43 = .ok (.if_icmp .ne 7, 3) := by decide +kernel
theorem dL_areGroups_46 : decode cL_areGroups 46 = .ok (.iconst 1, 1) := by decide +kernel
theorem dL_areGroups_47 : decode cL_areGroups 47 = .ok (.goto 4, 3) := by decide +kernel
theorem dL_areGroups_50 : decode cL_areGroups 50 = .ok (.iconst 0, 1) := by decide +kernel
theorem dL_areGroups_51 : decode cL_areGroups 51 = .ok (.istore_n 3, 1) := by decide +kernel
theorem dL_areGroups_52 : decode cL_areGroups 52 = .ok (.iconst 0, 1) := by decide +kernel
theorem dL_areGroups_53 : decode cL_areGroups 53 = .ok (.istore 4, 2) := by decide +kernel
theorem dL_areGroups_55 : decode cL_areGroups 55 = .ok (.iload 4, 2) := by decide +kernel
theorem dL_areGroups_57 : decode cL_areGroups 57 = .ok (.aload_n 1, 1) := by decide +kernel
theorem dL_areGroups_58 : decode cL_areGroups 58 = .ok (.iconst 1, 1) := by decide +kernel
theorem dL_areGroups_59 : decode cL_areGroups 59 = .ok (.iaload, 1) := by decide +kernel
theorem dL_areGroups_60 : decode cL_areGroups 60 = .ok (.if_icmp .ge 222, 3) := by decide +kernel
theorem dL_areGroups_63 : decode cL_areGroups 63 = .ok (.iload_n 3, 1) := by decide +kernel
theorem dL_areGroups_64 : decode cL_areGroups 64 = .ok (.ifCond .eq 218, 3) := by decide +kernel
theorem dL_areGroups_67 : decode cL_areGroups 67 = .ok (.bipush 6, 2) := by decide +kernel
theorem dL_areGroups_69 : decode cL_areGroups 69 = .ok (.iload 4, 2) := by decide +kernel
theorem dL_areGroups_71 : decode cL_areGroups 71 = .ok (.imul, 1) := by decide +kernel
theorem dL_areGroups_72 : decode cL_areGroups 72 = .ok (.istore 5, 2) := by decide +kernel
theorem dL_areGroups_74 : decode cL_areGroups 74 = .ok (.aload_n 2, 1) := by decide +kernel
theorem dL_areGroups_75 : decode cL_areGroups 75 = .ok (.iload 5, 2) := by decide +kernel
theorem dL_areGroups_77 : decode cL_areGroups 77 = .ok (.iaload, 1) := by decide +kernel
theorem dL_areGroups_78 : decode cL_areGroups 78 = .ok (.istore 6, 2) := by decide +kernel
theorem dL_areGroups_80 : decode cL_areGroups 80 = .ok (.aload_n 0, 1) := by decide +kernel
theorem dL_areGroups_81 : decode cL_areGroups 81 = .ok (.iload 4, 2) := by decide +kernel
theorem dL_areGroups_83 : decode cL_areGroups 83 = .ok (.invokevirtual 84, 3) := by decide +kernel
theorem dL_areGroups_86 : decode cL_areGroups 86 = .ok (.iload 6, 2) := by decide +kernel
theorem dL_areGroups_88 : decode cL_areGroups 88 = .ok (.if_icmp .ne 186, 3) := by decide +kernel
theorem dL_areGroups_91 : decode cL_areGroups 91 = .ok (.aload_n 0, 1) := by decide +kernel
theorem dL_areGroups_92 : decode cL_areGroups 92 = .ok (.iload 6, 2) := by decide +kernel
theorem dL_areGroups_94 : decode cL_areGroups 94 = .ok (.iconst 0, 1) := by decide +kernel
theorem dL_areGroups_95 : decode cL_areGroups 95 = .ok (.invokevirtual 88, 3) := by decide +kernel
theorem dL_areGroups_98 : decode cL_areGroups 98 = .ok (.aload_n 2, 1) := by decide +kernel
theorem dL_areGroups_99 : decode cL_areGroups 99 = .ok (.iload 5, 2) := by decide +kernel
theorem dL_areGroups_101 : decode cL_areGroups 101 = .ok (.iconst 1, 1) := by decide +kernel
theorem dL_areGroups_102 : decode cL_areGroups 102 = .ok (.iadd, 1) := by decide +kernel
theorem dL_areGroups_103 : decode cL_areGroups 103 = .ok (.iaload, 1) := by decide +kernel
theorem dL_areGroups_104 : decode cL_areGroups 104 = .ok (.if_icmp .ne 170, 3) := by decide +kernel
theorem dL_areGroups_107 : decode cL_areGroups 107 = .ok (.aload_n 0, 1) := by decide +kernel
theorem dL_areGroups_108 : decode cL_areGroups 108 = .ok (.iload 6, 2) := by decide +kernel
theorem dL_areGroups_110 : decode cL_areGroups 110 = .ok (.iconst 1, 1) := by decide +kernel
theorem dL_areGroups_111 : decode cL_areGroups 111 = .ok (.invokevirtual 88, 3) := by decide +kernel
theorem dL_areGroups_114 : decode cL_areGroups 114 = .ok (.aload_n 2, 1) := by decide +kernel
theorem dL_areGroups_115 : decode cL_areGroups 115 = .ok (.iload 5, 2) := by decide +kernel
theorem dL_areGroups_117 : decode cL_areGroups 117 = .ok (.iconst 2, 1) := by decide +kernel
theorem dL_areGroups_118 : decode cL_areGroups 118 = .ok (.iadd, 1) := by decide +kernel
theorem dL_areGroups_119 : decode cL_areGroups 119 = .ok (.iaload, 1) := by decide +kernel
theorem dL_areGroups_120 : decode cL_areGroups 120 = .ok (.if_icmp .ne 154, 3) := by decide +kernel
theorem dL_areGroups_123 : decode cL_areGroups 123 = .ok (.aload_n 0, 1) := by decide +kernel
theorem dL_areGroups_124 : decode cL_areGroups 124 = .ok (.iload 6, 2) := by decide +kernel
theorem dL_areGroups_126 : decode cL_areGroups 126 = .ok (.iconst 2, 1) := by decide +kernel
theorem dL_areGroups_127 : decode cL_areGroups 127 = .ok (.invokevirtual 88, 3) := by decide +kernel
theorem dL_areGroups_130 : decode cL_areGroups 130 = .ok (.aload_n 2, 1) := by decide +kernel
theorem dL_areGroups_131 : decode cL_areGroups 131 = .ok (.iload 5, 2) := by decide +kernel
theorem dL_areGroups_133 : decode cL_areGroups 133 = .ok (.iconst 3, 1) := by decide +kernel
theorem dL_areGroups_134 : decode cL_areGroups 134 = .ok (.iadd, 1) := by decide +kernel
theorem dL_areGroups_135 : decode cL_areGroups 135 = .ok (.iaload, 1) := by decide +kernel
theorem dL_areGroups_136 : decode cL_areGroups 136 = .ok (.if_icmp .ne 138, 3) := by decide +kernel
theorem dL_areGroups_139 : decode cL_areGroups 139 = .ok (.aload_n 0, 1) := by decide +kernel
theorem dL_areGroups_140 : decode cL_areGroups 140 = .ok (.iload 6, 2) := by decide +kernel
theorem dL_areGroups_142 : decode cL_areGroups 142 = .ok (.iconst 3, 1) := by decide +kernel
theorem dL_areGroups_143 : decode cL_areGroups 143 = .ok (.invokevirtual 88, 3) := by decide +kernel
theorem dL_areGroups_146 : decode cL_areGroups 146 = .ok (.aload_n 2, 1) := by decide +kernel
theorem dL_areGroups_147 : decode cL_areGroups 147 = .ok (.iload 5, 2) := by decide +kernel
theorem dL_areGroups_149 : decode cL_areGroups 149 = .ok (.iconst 1, 1) := by decide +kernel
theorem dL_areGroups_150 : decode cL_areGroups 150 = .ok (.iadd, 1) := by decide +kernel
theorem dL_areGroups_151 : decode cL_areGroups 151 = .ok (.iaload, 1) := by decide +kernel
theorem dL_areGroups_152 : decode cL_areGroups 152 = .ok (.iconst 1, 1) := by decide +kernel
theorem dL_areGroups_153 : decode cL_areGroups 153 = .ok (.iadd, 1) := by decide +kernel
theorem dL_areGroups_154 : decode cL_areGroups 154 = .ok (.iconst 2, 1) := by decide +kernel
theorem dL_areGroups_155 : decode cL_areGroups 155 = .ok (.idiv, 1) := by decide +kernel
theorem dL_areGroups_156 : decode cL_areGroups 156 = .ok (.if_icmp .ne 118, 3) := by decide +kernel
theorem dL_areGroups_159 : decode cL_areGroups 159 = .ok (.aload_n 0, 1) := by decide +kernel
theorem dL_areGroups_160 : decode cL_areGroups 160 = .ok (.iload 6, 2) := by decide +kernel
theorem dL_areGroups_162 : decode cL_areGroups 162 = .ok (.iconst 4, 1) := by decide +kernel
theorem dL_areGroups_163 : decode cL_areGroups 163 = .ok (.invokevirtual 88, 3) := by decide +kernel
theorem dL_areGroups_166 : decode cL_areGroups 166 = .ok (.aload_n 1, 1) := by decide +kernel
theorem dL_areGroups_167 : decode cL_areGroups 167 = .ok (.iconst 3, 1) := by decide +kernel
theorem dL_areGroups_168 : decode cL_areGroups 168 = .ok (.iaload, 1) := by decide +kernel
theorem dL_areGroups_169 : decode cL_areGroups 169 = .ok (.aload_n 2, 1) := by decide +kernel
theorem dL_areGroups_170 : decode cL_areGroups 170 = .ok (.iload 5, 2) := by decide +kernel
theorem dL_areGroups_172 : decode cL_areGroups 172 = .ok (.iconst 2, 1) := by decide +kernel
theorem dL_areGroups_173 : decode cL_areGroups 173 = .ok (.iadd, 1) := by decide +kernel
theorem dL_areGroups_174 : decode cL_areGroups 174 = .ok (.iaload, 1) := by decide +kernel
theorem dL_areGroups_175 : decode cL_areGroups 175 = .ok (.if_icmp .lt 26, 3) := by decide +kernel
theorem dL_areGroups_178 : decode cL_areGroups 178 = .ok (.aload_n 1, 1) := by decide +kernel
theorem dL_areGroups_179 : decode cL_areGroups 179 = .ok (.iconst 3, 1) := by decide +kernel
theorem dL_areGroups_180 : decode cL_areGroups 180 = .ok (.iaload, 1) := by decide +kernel
theorem dL_areGroups_181 : decode cL_areGroups 181 = .ok (.aload_n 2, 1) := by decide +kernel
theorem dL_areGroups_182 : decode cL_areGroups 182 = .ok (.iload 5, 2) := by decide +kernel
theorem dL_areGroups_184 : decode cL_areGroups 184 = .ok (.iconst 2, 1) := by decide +kernel
theorem dL_areGroups_185 : decode cL_areGroups 185 = .ok (.iadd, 1) := by decide +kernel
theorem dL_areGroups_186 : decode cL_areGroups 186 = .ok (.iaload, 1) := by decide +kernel
theorem dL_areGroups_187 : decode cL_areGroups 187 = .ok (.aload_n 2, 1) := by decide +kernel
theorem dL_areGroups_188 : decode cL_areGroups 188 = .ok (.iload 5, 2) := by decide +kernel
theorem dL_areGroups_190 : decode cL_areGroups 190 = .ok (.iconst 3, 1) := by decide +kernel
theorem dL_areGroups_191 : decode cL_areGroups 191 = .ok (.iadd, 1) := by decide +kernel
theorem dL_areGroups_192 : decode cL_areGroups 192 = .ok (.iaload, 1) := by decide +kernel
theorem dL_areGroups_193 : decode cL_areGroups 193 = .ok (.iadd, 1) := by decide +kernel
theorem dL_areGroups_194 : decode cL_areGroups 194 = .ok (.if_icmp .ge 7, 3) := by decide +kernel
theorem dL_areGroups_197 : decode cL_areGroups 197 = .ok (.iconst 1, 1) := by decide +kernel
theorem dL_areGroups_198 : decode cL_areGroups 198 = .ok (.goto 4, 3) := by decide +kernel
theorem dL_areGroups_201 : decode cL_areGroups 201 = .ok (.iconst 0, 1) := by decide +kernel
theorem dL_areGroups_202 : decode cL_areGroups 202 = .ok (.if_icmp .ne 72, 3) := by decide +kernel
theorem dL_areGroups_205 : decode cL_areGroups 205 = .ok (.aload_n 0, 1) := by decide +kernel
theorem dL_areGroups_206 : decode cL_areGroups 206 = .ok (.iload 6, 2) := by decide +kernel
theorem dL_areGroups_208 : decode cL_areGroups 208 = .ok (.iconst 5, 1) := by decide +kernel
theorem dL_areGroups_209 : decode cL_areGroups 209 = .ok (.invokevirtual 88, 3) := by decide +kernel
theorem dL_areGroups_212 : decode cL_areGroups 212 = .ok (.aload_n 2, 1) := by decide +kernel
theorem dL_areGroups_213 : decode cL_areGroups 213 = .ok (.iload 5, 2) := by decide +kernel
theorem dL_areGroups_215 : decode cL_areGroups 215 = .ok (.iconst 4, 1) := by decide +kernel
theorem dL_areGroups_216 : decode cL_areGroups 216 = .ok (.iadd, 1) := by decide +kernel
theorem dL_areGroups_217 : decode cL_areGroups 217 = .ok (.iaload, 1) := by decide +kernel
theorem dL_areGroups_218 : decode cL_areGroups 218 = .ok (.if_icmp .ne 56, 3) := by decide +kernel
theorem dL_areGroups_221 : decode cL_areGroups 221 = .ok (.aload_n 0, 1) := by decide +kernel
theorem dL_areGroups_222 : decode cL_areGroups 222 = .ok (.iload 6, 2) := by decide +kernel
theorem dL_areGroups_224 : decode cL_areGroups 224 = .ok (.bipush 6, 2) := by decide +kernel
theorem dL_areGroups_226 : decode cL_areGroups 226 = .ok (.invokevirtual 88, 3) := by decide +kernel
theorem dL_areGroups_229 : decode cL_areGroups 229 = .ok (.aload_n 2, 1) := by decide +kernel
theorem dL_areGroups_230 : decode cL_areGroups 230 = .ok (.iload 5, 2) := by decide +kernel
theorem dL_areGroups_232 : decode cL_areGroups 232 = .ok (.iconst 5, 1) := by decide +kernel
theorem dL_areGroups_233 : decode cL_areGroups 233 = .ok (.iadd, 1) := by decide +kernel
theorem dL_areGroups_234 : decode cL_areGroups 234 = .ok (.iaload, 1) := by decide +kernel
theorem dL_areGroups_235 : decode cL_areGroups 235 = .ok (.if_icmp .ne 39, 3) := by decide +kernel
theorem dL_areGroups_238 : decode cL_areGroups 238 = .ok (.aload_n 0, 1) := by decide +kernel
theorem dL_areGroups_239 : decode cL_areGroups 239 = .ok (.iload 6, 2) := by decide +kernel
theorem dL_areGroups_241 : decode cL_areGroups 241 = .ok (.bipush 7, 2) := by decide +kernel
theorem dL_areGroups_243 : decode cL_areGroups 243 = .ok (.invokevirtual 88, 3) := by decide +kernel
theorem dL_areGroups_246 : decode cL_areGroups 246 = .ok (.ldc 40, 2) := by decide +kernel
theorem dL_areGroups_248 : decode cL_areGroups 248 = .ok (.if_icmp .ne 26, 3) := by decide +kernel
theorem dL_areGroups_251 : decode cL_areGroups 251 = .ok (.aload_n 1, 1) := by decide +kernel
theorem dL_areGroups_252 : decode cL_areGroups 252 = .ok (.iconst 3, 1) := by decide +kernel
theorem dL_areGroups_253 : decode cL_areGroups 253 = .ok (.iaload, 1) := by decide +kernel
theorem dL_areGroups_254 : decode cL_areGroups 254 = .ok (.aload_n 2, 1) := by decide +kernel
theorem dL_areGroups_255 : decode cL_areGroups 255 = .ok (.iload 5, 2) := by decide +kernel
theorem dL_areGroups_257 : decode cL_areGroups 257 = .ok (.iconst 2, 1) := by decide +kernel
theorem dL_areGroups_258 : decode cL_areGroups 258 = .ok (.iadd, 1) := by decide +kernel
theorem dL_areGroups_259 : decode cL_areGroups 259 = .ok (.iaload, 1) := by decide +kernel
theorem dL_areGroups_260 : decode cL_areGroups 260 = .ok (.aload_n 2, 1) := by decide +kernel
theorem dL_areGroups_261 : decode cL_areGroups 261 = .ok (.iload 5, 2) := by decide +kernel
theorem dL_areGroups_263 : decode cL_areGroups 263 = .ok (.iconst 3, 1) := by decide +kernel
theorem dL_areGroups_264 : decode cL_areGroups 264 = .ok (.iadd, 1) := by decide +kernel
theorem dL_areGroups_265 : decode cL_areGroups 265 = .ok (.iaload, 1) := by decide +kernel
theorem dL_areGroups_266 : decode cL_areGroups 266 = .ok (.iadd, 1) := by decide +kernel
theorem dL_areGroups_267 : decode cL_areGroups 267 = .ok (.if_icmp .ge 7, 3) := by decide +kernel
theorem dL_areGroups_270 : decode cL_areGroups 270 = .ok (.iconst 1, 1) := by decide +kernel
theorem dL_areGroups_271 : decode cL_areGroups 271 = .ok (.goto 4, 3) := by decide +kernel
theorem dL_areGroups_274 : decode cL_areGroups 274 = .ok (.iconst 0, 1) := by decide +kernel
theorem dL_areGroups_275 : decode cL_areGroups 275 = .ok (.istore_n 3, 1) := by decide +kernel
theorem dL_areGroups_276 : decode cL_areGroups 276 = .ok (.iinc 4 1, 3) := by decide +kernel
theorem dL_areGroups_279 : decode cL_areGroups 279 = .ok (.goto (-224), 3) := by decide +kernel
theorem dL_areGroups_282 : decode cL_areGroups 282 = .ok (.iload_n 3, 1) := by decide +kernel
theorem dL_areGroups_283 : decode cL_areGroups 283 = .ok (.ireturn, 1) := by decide +kernel
theorem dL_isSo_0 : decode cL_isSo 0 = .ok (.aload_n 0, 1) := by decide +kernel
theorem dL_isSo_1 : decode cL_isSo 1 = .ok (.aload_n 1, 1) := by decide +kernel
theorem dL_isSo_2 : decode cL_isSo 2 = .ok (.aload_n 2, 1) := by decide +kernel
theorem dL_isSo_3 : decode cL_isSo 3 = .ok (.invokestatic 91, 3) := by decide +kernel
theorem dL_isSo_6 : decode cL_isSo 6 = .ok (.ifCond .eq 37, 3) := by decide +kernel
theorem dL_isSo_9 : decode cL_isSo 9 = .ok (.aload_n 0, 1) := by decide +kernel
theorem dL_isSo_10 : decode cL_isSo 10 = .ok (.aload_n 1, 1) := by decide +kernel
theorem dL_isSo_11 : decode cL_isSo 11 = .ok (.aload_n 3, 1) := by decide +kernel
theorem dL_isSo_12 : decode cL_isSo 12 = .ok (.invokestatic 95, 3) := by decide +kernel
theorem dL_isSo_15 : decode cL_isSo 15 = .ok (.ifCond .eq 28, 3) := by decide +kernel
theorem dL_isSo_18 : decode cL_isSo 18 = .ok (.aload_n 0, 1) := by decide +kernel
theorem dL_isSo_19 : decode cL_isSo 19 = .ok (.iconst (-1), 1) := by decide +kernel
theorem dL_isSo_20 : decode cL_isSo 20 = .ok (.invokevirtual 98, 3) := by decide +kernel
theorem dL_isSo_23 : decode cL_isSo 23 = .ok (.ldc 40, 2) := by decide +kernel
theorem dL_isSo_25 : decode cL_isSo 25 = .ok (.if_icmp .ne 18, 3) := by decide +kernel
theorem dL_isSo_28 : decode cL_isSo 28 = .ok (.aload_n 0, 1) := by decide +kernel
theorem dL_isSo_29 : decode cL_isSo 29 = .ok (.bipush 21, 2) := by decide +kernel
theorem dL_isSo_31 : decode cL_isSo 31 = .ok (.invokevirtual 98, 3) := by decide +kernel
theorem dL_isSo_34 : decode cL_isSo 34 = .ok (.ldc 40, 2) := by decide +kernel
theorem dL_isSo_36 : decode cL_isSo 36 = .ok (.if_icmp .ne 7, 3) := by decide +kernel
theorem dL_isSo_39 : decode cL_isSo 39 = .ok (.iconst 1, 1) := by decide +kernel
theorem dL_isSo_40 : decode cL_isSo 40 = .ok (.goto 4, 3) := by decide +kernel
theorem dL_isSo_43 : decode cL_isSo 43 = .ok (.iconst 0, 1) := by decide +kernel
theorem dL_isSo_44 : decode cL_isSo 44 = .ok (.istore 5, 2) := by decide +kernel
theorem dL_isSo_46 : decode cL_isSo 46 = .ok (.iconst 0, 1) := by decide +kernel
theorem dL_isSo_47 : decode cL_isSo 47 = .ok (.istore 6, 2) := by decide +kernel
theorem dL_isSo_49 : decode cL_isSo 49 = .ok (.iload 6, 2) := by decide +kernel
theorem dL_isSo_51 : decode cL_isSo 51 = .ok (.bipush 21, 2) := by decide +kernel
theorem dL_isSo_53 : decode cL_isSo 53 = .ok (.if_icmp .ge 35, 3) := by decide +kernel
theorem dL_isSo_56 : decode cL_isSo 56 = .ok (.iload 5, 2) := by decide +kernel
theorem dL_isSo_58 : decode cL_isSo 58 = .ok (.ifCond .eq 30, 3) := by decide +kernel
theorem dL_isSo_61 : decode cL_isSo 61 = .ok (.aload_n 0, 1) := by decide +kernel
theorem dL_isSo_62 : decode cL_isSo 62 = .ok (.iload 6, 2) := by decide +kernel
theorem dL_isSo_64 : decode cL_isSo 64 = .ok (.invokevirtual 98, 3) := by decide +kernel
theorem dL_isSo_67 : decode cL_isSo 67 = .ok (.aload 4, 2) := by decide +kernel
theorem dL_isSo_69 : decode cL_isSo 69 = .ok (.iload 6, 2) := by decide +kernel
theorem dL_isSo_71 : decode cL_isSo 71 = .ok (.iaload, 1) := by decide +kernel
theorem dL_isSo_72 : decode cL_isSo 72 = .ok (.if_icmp .ne 7, 3) := by decide +kernel
theorem dL_isSo_75 : decode cL_isSo 75 = .ok (.iconst 1, 1) := by decide +kernel
theorem dL_isSo_76 : decode cL_isSo 76 = .ok (.goto 4, 3) := by decide +kernel
theorem dL_isSo_79 : decode cL_isSo 79 = .ok (.iconst 0, 1) := by decide +kernel
theorem dL_isSo_80 : decode cL_isSo 80 = .ok (.istore 5, 2) := by decide +kernel
theorem dL_isSo_82 : decode cL_isSo 82 = .ok (.iinc 6 1, 3) := by decide +kernel
theorem dL_isSo_85 : decode cL_isSo 85 = .ok (.goto (-36), 3) := by decide +kernel
theorem dL_isSo_88 : decode cL_isSo 88 = .ok (.iconst 0, 1) := by decide +kernel
theorem dL_isSo_89 : decode cL_isSo 89 = .ok (.istore 6, 2) := by decide +kernel
theorem dL_isSo_91 : decode cL_isSo 91 = .ok (.iload 6, 2) := by decide +kernel
theorem dL_isSo_93 : decode cL_isSo 93 = .ok (.bipush 7, 2) := by decide +kernel
theorem dL_isSo_95 : decode cL_isSo 95 = .ok (.if_icmp .ge 34, 3) := by decide +kernel
theorem dL_isSo_98 : decode cL_isSo 98 = .ok (.iload 5, 2) := by decide +kernel
theorem dL_isSo_100 : decode cL_isSo 100 = .ok (.ifCond .eq 29, 3) := by decide +kernel
theorem dL_isSo_103 : decode cL_isSo 103 = .ok (.aload_n 0, 1) := by decide +kernel
theorem dL_isSo_104 : decode cL_isSo 104 = .ok (.iload 6, 2) := by decide +kernel
theorem dL_isSo_106 : decode cL_isSo 106 = .ok (.invokevirtual 81, 3) := by decide +kernel
theorem dL_isSo_109 : decode cL_isSo 109 = .ok (.aload_n 1, 1) := by decide +kernel
theorem dL_isSo_110 : decode cL_isSo 110 = .ok (.iload 6, 2) := by decide +kernel
theorem dL_isSo_112 : decode cL_isSo 112 = .ok (.iaload, 1) := by decide +kernel
theorem dL_isSo_113 : decode cL_isSo 113 = .ok (.if_icmp .ne 7, 3) := by decide +kernel
theorem dL_isSo_116 : decode cL_isSo 116 = .ok (.iconst 1, 1) := by decide +kernel
theorem dL_isSo_117 : decode cL_isSo 117 = .ok (.goto 4, 3) := by decide +kernel
theorem dL_isSo_120 : decode cL_isSo 120 = .ok (.iconst 0, 1) := by decide +kernel
theorem dL_isSo_121 : decode cL_isSo 121 = .ok (.istore 5, 2) := by decide +kernel
theorem dL_isSo_123 : decode cL_isSo 123 = .ok (.iinc 6 1, 3) := by decide +kernel
theorem dL_isSo_126 : decode cL_isSo 126 = .ok (.goto (-35), 3) := by decide +kernel
theorem dL_isSo_129 : decode cL_isSo 129 = .ok (.bipush 7, 2) := by decide +kernel
theorem dL_isSo_131 : decode cL_isSo 131 = .ok (.istore 6, 2) := by decide +kernel
theorem dL_isSo_133 : decode cL_isSo 133 = .ok (.iload 6, 2) := by decide +kernel
theorem dL_isSo_135 : decode cL_isSo 135 = .ok (.bipush 15, 2) := by decide +kernel
theorem dL_isSo_137 : decode cL_isSo 137 = .ok (.if_icmp .ge 36, 3) := by decide +kernel
theorem dL_isSo_140 : decode cL_isSo 140 = .ok (.iload 5, 2) := by decide +kernel
theorem dL_isSo_142 : decode cL_isSo 142 = .ok (.ifCond .eq 31, 3) := by decide +kernel
theorem dL_isSo_145 : decode cL_isSo 145 = .ok (.aload_n 0, 1) := by decide +kernel
theorem dL_isSo_146 : decode cL_isSo 146 = .ok (.iload 6, 2) := by decide +kernel
theorem dL_isSo_148 : decode cL_isSo 148 = .ok (.iconst 3, 1) := by decide +kernel
theorem dL_isSo_149 : decode cL_isSo 149 = .ok (.iadd, 1) := by decide +kernel
theorem dL_isSo_150 : decode cL_isSo 150 = .ok (.invokevirtual 81, 3) := by decide +kernel
theorem dL_isSo_153 : decode cL_isSo 153 = .ok (.aload_n 1, 1) := by decide +kernel
theorem dL_isSo_154 : decode cL_isSo 154 = .ok (.iload 6, 2) := by decide +kernel
theorem dL_isSo_156 : decode cL_isSo 156 = .ok (.iaload, 1) := by decide +kernel
theorem dL_isSo_157 : decode cL_isSo 157 = .ok (.if_icmp .ne 7, 3) := by decide +kernel
theorem dL_isSo_160 : decode cL_isSo 160 = .ok (.iconst 1, 1) := by decide +kernel
theorem dL_isSo_161 : decode cL_isSo 161 = .ok (.goto 4, 3) := by decide +kernel
theorem dL_isSo_164 : decode cL_isSo 164 = .ok (.iconst 0, 1) := by decide +kernel
theorem dL_isSo_165 : decode cL_isSo 165 = .ok (.istore 5, 2) := by decide +kernel
theorem dL_isSo_167 : decode cL_isSo 167 = .ok (.iinc 6 1, 3) := by decide +kernel
theorem dL_isSo_170 : decode cL_isSo 170 = .ok (.goto (-37), 3) := by decide +kernel
theorem dL_isSo_173 : decode cL_isSo 173 = .ok (.iconst 0, 1) := by decide +kernel
theorem dL_isSo_174 : decode cL_isSo 174 = .ok (.istore 6, 2) := by decide +kernel
theorem dL_isSo_176 : decode cL_isSo 176 = .ok (.iload 6, 2) := by decide +kernel
theorem dL_isSo_178 : decode cL_isSo 178 = .ok (.iconst 4, 1) := by decide +kernel
theorem dL_isSo_179 : decode cL_isSo 179 = .ok (.if_icmp .ge 40, 3) := by decide +kernel
theorem dL_isSo_182 : decode cL_isSo 182 = .ok (.iload 5, 2) := by decide +kernel
theorem dL_isSo_184 : decode cL_isSo 184 = .ok (.ifCond .eq 35, 3) := by decide +kernel
theorem dL_isSo_187 : decode cL_isSo 187 = .ok (.aload_n 0, 1) := by decide +kernel
theorem dL_isSo_188 : decode cL_isSo 188 = .ok (.bipush 20, 2) := by decide +kernel
theorem dL_isSo_190 : decode cL_isSo 190 = .ok (.iload 6, 2) := by decide +kernel
theorem dL_isSo_192 : decode cL_isSo 192 = .ok (.iadd, 1) := by decide +kernel
theorem dL_isSo_193 : decode cL_isSo 193 = .ok (.invokevirtual 81, 3) := by decide +kernel
theorem dL_isSo_196 : decode cL_isSo 196 = .ok (.aload_n 1, 1) := by decide +kernel
theorem dL_isSo_197 : decode cL_isSo 197 = .ok (.bipush 15, 2) := by decide +kernel
theorem dL_isSo_199 : decode cL_isSo 199 = .ok (.iload 6, 2) := by decide +kernel
theorem dL_isSo_201 : decode cL_isSo 201 = .ok (.iadd, 1) := by decide +kernel
theorem dL_isSo_202 : decode cL_isSo 202 = .ok (.iaload, 1) := by decide +kernel
theorem dL_isSo_203 : decode cL_isSo 203 = .ok (.if_icmp .ne 7, 3) := by decide +kernel
theorem dL_isSo_206 : decode cL_isSo 206 = .ok (.iconst 1, 1) := by decide +kernel
theorem dL_isSo_207 : decode cL_isSo 207 = .ok (.goto 4, 3) := by decide +kernel
theorem dL_isSo_210 : decode cL_isSo 210 = .ok (.iconst 0, 1) := by decide +kernel
theorem dL_isSo_211 : decode cL_isSo 211 = .ok (.istore 5, 2) := by decide +kernel
theorem dL_isSo_213 : decode cL_isSo 213 = .ok (.iinc 6 1, 3) := by decide +kernel
theorem dL_isSo_216 : decode cL_isSo 216 = .ok (.goto (-40), 3) := by decide +kernel
theorem dL_isSo_219 : decode cL_isSo 219 = .ok (.iload 5, 2) := by decide +kernel
theorem dL_isSo_221 : decode cL_isSo 221 = .ok (.ifCond .eq 130, 3) := by decide +kernel
theorem dL_isSo_224 : decode cL_isSo 224 = .ok (.aload_n 0, 1) := by decide +kernel
theorem dL_isSo_225 : decode cL_isSo 225 = .ok (.bipush 7, 2) := by decide +kernel
theorem dL_isSo_227 : decode cL_isSo 227 = .ok (.invokevirtual 81, 3) := by decide +kernel
theorem dL_isSo_230 : decode cL_isSo 230 = .ok (.aload 4, 2) := by decide +kernel
theorem dL_isSo_232 : decode cL_isSo 232 = .ok (.iconst 0, 1) := by decide +kernel
theorem dL_isSo_233 : decode cL_isSo 233 = .ok (.bipush 20, 2) := by decide +kernel
theorem dL_isSo_235 : decode cL_isSo 235 = .ok (.invokestatic 9, 3) := by decide +kernel
theorem dL_isSo_238 : decode cL_isSo 238 = .ok (.if_icmp .ne 113, 3) := by decide +kernel
theorem dL_isSo_241 : decode cL_isSo 241 = .ok (.aload_n 0, 1) := by decide +kernel
theorem dL_isSo_242 : decode cL_isSo 242 = .ok (.bipush 8, 2) := by decide +kernel
theorem dL_isSo_244 : decode cL_isSo 244 = .ok (.invokevirtual 81, 3) := by decide +kernel
theorem dL_isSo_247 : decode cL_isSo 247 = .ok (.aload 4, 2) := by decide +kernel
theorem dL_isSo_249 : decode cL_isSo 249 = .ok (.aload_n 1, 1) := by decide +kernel
theorem dL_isSo_250 : decode cL_isSo 250 = .ok (.bipush 17, 2) := by decide +kernel
theorem dL_isSo_252 : decode cL_isSo 252 = .ok (.iaload, 1) := by decide +kernel
theorem dL_isSo_253 : decode cL_isSo 253 = .ok (.iconst 1, 1) := by decide +kernel
theorem dL_isSo_254 : decode cL_isSo 254 = .ok (.iadd, 1) := by decide +kernel
theorem dL_isSo_255 : decode cL_isSo 255 = .ok (.bipush 20, 2) := by decide +kernel
theorem dL_isSo_257 : decode cL_isSo 257 = .ok (.invokestatic 9, 3) := by decide +kernel
theorem dL_isSo_260 : decode cL_isSo 260 = .ok (.if_icmp .ne 91, 3) := by decide +kernel
theorem dL_isSo_263 : decode cL_isSo 263 = .ok (.aload_n 0, 1) := by decide +kernel
theorem dL_isSo_264 : decode cL_isSo 264 = .ok (.bipush 7, 2) := by decide +kernel
theorem dL_isSo_266 : decode cL_isSo 266 = .ok (.invokevirtual 81, 3) := by decide +kernel
theorem dL_isSo_269 : decode cL_isSo 269 = .ok (.bipush 80, 2) := by decide +kernel
theorem dL_isSo_271 : decode cL_isSo 271 = .ok (.if_icmp .gt 80, 3) := by decide +kernel
theorem dL_isSo_274 : decode cL_isSo 274 = .ok (.aload_n 0, 1) := by decide +kernel
theorem dL_isSo_275 : decode cL_isSo 275 = .ok (.bipush 19, 2) := by decide +kernel
theorem dL_isSo_277 : decode cL_isSo 277 = .ok (.invokevirtual 81, 3) := by decide +kernel
theorem dL_isSo_280 : decode cL_isSo 280 = .ok (.ifCond .ne 71, 3) := by decide +kernel
theorem dL_isSo_283 : decode cL_isSo 283 = .ok (.aload_n 0, 1) := by decide +kernel
theorem dL_isSo_284 : decode cL_isSo 284 = .ok (.bipush 10, 2) := by decide +kernel
theorem dL_isSo_286 : decode cL_isSo 286 = .ok (.invokevirtual 81, 3) := by decide +kernel
theorem dL_isSo_289 : decode cL_isSo 289 = .ok (.aload_n 0, 1) := by decide +kernel
theorem dL_isSo_290 : decode cL_isSo 290 = .ok (.bipush 7, 2) := by decide +kernel
theorem dL_isSo_292 : decode cL_isSo 292 = .ok (.invokevirtual 81, 3) := by decide +kernel
theorem dL_isSo_295 : decode cL_isSo 295 = .ok (.aload_n 0, 1) := by decide +kernel
theorem dL_isSo_296 : decode cL_isSo 296 = .ok (.bipush 9, 2) := by decide +kernel
theorem dL_isSo_298 : decode cL_isSo 298 = .ok (.invokevirtual 81, 3) := by decide +kernel
theorem dL_isSo_301 : decode cL_isSo 301 = .ok (.iadd, 1) := by decide +kernel
theorem dL_isSo_302 : decode cL_isSo 302 = .ok (.aload_n 0, 1) := by decide +kernel
theorem dL_isSo_303 : decode cL_isSo 303 = .ok (.bipush 11, 2) := by decide +kernel
theorem dL_isSo_305 : decode cL_isSo 305 = .ok (.invokevirtual 81, 3) := by decide +kernel
theorem dL_isSo_308 : decode cL_isSo 308 = .ok (.iadd, 1) := by decide +kernel
theorem dL_isSo_309 : decode cL_isSo 309 = .ok (.aload_n 0, 1) := by decide +kernel
theorem dL_isSo_310 : decode cL_isSo 310 = .ok (.bipush 12, 2) := by decide +kernel
theorem dL_isSo_312 : decode cL_isSo 312 = .ok (.invokevirtual 81, 3) := by decide +kernel
theorem dL_isSo_315 : decode cL_isSo 315 = .ok (.iadd, 1) := by decide +kernel
theorem dL_isSo_316 : decode cL_isSo 316 = .ok (.aload_n 0, 1) := by decide +kernel
theorem dL_isSo_317 : decode cL_isSo 317 = .ok (.bipush 13, 2) := by decide +kernel
theorem dL_isSo_319 : decode cL_isSo 319 = .ok (.invokevirtual 81, 3) := by decide +kernel
theorem dL_isSo_322 : decode cL_isSo 322 = .ok (.iadd, 1) := by decide +kernel
theorem dL_isSo_323 : decode cL_isSo 323 = .ok (.if_icmp .ne 28, 3) := by decide +kernel
theorem dL_isSo_326 : decode cL_isSo 326 = .ok (.aload_n 0, 1) := by decide +kernel
theorem dL_isSo_327 : decode cL_isSo 327 = .ok (.iconst 5, 1) := by decide +kernel
theorem dL_isSo_328 : decode cL_isSo 328 = .ok (.invokevirtual 81, 3) := by decide +kernel
theorem dL_isSo_331 : decode cL_isSo 331 = .ok (.aload_n 0, 1) := by decide +kernel
theorem dL_isSo_332 : decode cL_isSo 332 = .ok (.bipush 16, 2) := by decide +kernel
theorem dL_isSo_334 : decode cL_isSo 334 = .ok (.invokevirtual 81, 3) := by decide +kernel
theorem dL_isSo_337 : decode cL_isSo 337 = .ok (.aload_n 0, 1) := by decide +kernel
theorem dL_isSo_338 : decode cL_isSo 338 = .ok (.bipush 17, 2) := by decide +kernel
theorem dL_isSo_340 : decode cL_isSo 340 = .ok (.invokevirtual 81, 3) := by decide +kernel
theorem dL_isSo_343 : decode cL_isSo 343 = .ok (.isub, 1) := by decide +kernel
theorem dL_isSo_344 : decode cL_isSo 344 = .ok (.if_icmp .ne 7, 3) := by decide +kernel
theorem dL_isSo_347 : decode cL_isSo 347 = .ok (.iconst 1, 1) := by decide +kernel
theorem dL_isSo_348 : decode cL_isSo 348 = .ok (.goto 4, 3) := by decide +kernel
theorem dL_isSo_351 : decode cL_isSo 351 = .ok (.iconst 0, 1) := by decide +kernel
theorem dL_isSo_352 : decode cL_isSo 352 = .ok (.ireturn, 1) := by decide +kernel
theorem dL_law_0 : decode cL_law 0 = .ok (.new 31, 3) := by decide +kernel
theorem dL_law_3 : decode cL_law 3 = .ok (.dup, 1) := by decide +kernel
theorem dL_law_4 : decode cL_law 4 = .ok (.invokespecial 101, 3) := by decide +kernel
theorem dL_law_7 : decode cL_law 7 = .ok (.astore_n 1, 1) := by decide +kernel
theorem dL_law_8 : decode cL_law 8 = .ok (.bipush 19, 2) := by decide +kernel
theorem dL_law_10 : decode cL_law 10 = .ok (.newarray .int, 2) := by decide +kernel
theorem dL_law_12 : decode cL_law 12 = .ok (.astore_n 2, 1) := by decide +kernel
theorem dL_law_13 : decode cL_law 13 = .ok (.bipush 36, 2) := by decide +kernel
theorem dL_law_15 : decode cL_law 15 = .ok (.newarray .int, 2) := by decide +kernel
theorem dL_law_17 : decode cL_law 17 = .ok (.astore_n 3, 1) := by decide +kernel
theorem dL_law_18 : decode cL_law 18 = .ok (.bipush 60, 2) := by decide +kernel
theorem dL_law_20 : decode cL_law 20 = .ok (.newarray .int, 2) := by decide +kernel
theorem dL_law_22 : decode cL_law 22 = .ok (.astore 4, 2) := by decide +kernel
theorem dL_law_24 : decode cL_law 24 = .ok (.bipush 21, 2) := by decide +kernel
theorem dL_law_26 : decode cL_law 26 = .ok (.newarray .int, 2) := by decide +kernel
theorem dL_law_28 : decode cL_law 28 = .ok (.astore 5, 2) := by decide +kernel
theorem dL_law_30 : decode cL_law 30 = .ok (.aload_n 2, 1) := by decide +kernel
theorem dL_law_31 : decode cL_law 31 = .ok (.iconst 4, 1) := by decide +kernel
theorem dL_law_32 : decode cL_law 32 = .ok (.iconst 1, 1) := by decide +kernel
theorem dL_law_33 : decode cL_law 33 = .ok (.iastore, 1) := by decide +kernel
theorem dL_law_34 : decode cL_law 34 = .ok (.aload_n 2, 1) := by decide +kernel
theorem dL_law_35 : decode cL_law 35 = .ok (.bipush 15, 2) := by decide +kernel
theorem dL_law_37 : decode cL_law 37 = .ok (.iconst 2, 1) := by decide +kernel
theorem dL_law_38 : decode cL_law 38 = .ok (.iastore, 1) := by decide +kernel
theorem dL_law_39 : decode cL_law 39 = .ok (.aload_n 2, 1) := by decide +kernel
theorem dL_law_40 : decode cL_law 40 = .ok (.bipush 16, 2) := by decide +kernel
theorem dL_law_42 : decode cL_law 42 = .ok (.bipush 100, 2) := by decide +kernel
theorem dL_law_44 : decode cL_law 44 = .ok (.iastore, 1) := by decide +kernel
theorem dL_law_45 : decode cL_law 45 = .ok (.aload_n 2, 1) := by decide +kernel
theorem dL_law_46 : decode cL_law 46 = .ok (.bipush 17, 2) := by decide +kernel
theorem dL_law_48 : decode cL_law 48 = .ok (.iconst 3, 1) := by decide +kernel
theorem dL_law_49 : decode cL_law 49 = .ok (.iastore, 1) := by decide +kernel
theorem dL_law_50 : decode cL_law 50 = .ok (.aload_n 2, 1) := by decide +kernel
theorem dL_law_51 : decode cL_law 51 = .ok (.bipush 18, 2) := by decide +kernel
theorem dL_law_53 : decode cL_law 53 = .ok (.bipush 10, 2) := by decide +kernel
theorem dL_law_55 : decode cL_law 55 = .ok (.iastore, 1) := by decide +kernel
theorem dL_law_56 : decode cL_law 56 = .ok (.aload_n 1, 1) := by decide +kernel
theorem dL_law_57 : decode cL_law 57 = .ok (.iconst 0, 1) := by decide +kernel
theorem dL_law_58 : decode cL_law 58 = .ok (.invokevirtual 81, 3) := by decide +kernel
theorem dL_law_61 : decode cL_law 61 = .ok (.ifCond .ne 7, 3) := by decide +kernel
theorem dL_law_64 : decode cL_law 64 = .ok (.iconst 1, 1) := by decide +kernel
theorem dL_law_65 : decode cL_law 65 = .ok (.goto 4, 3) := by decide +kernel
theorem dL_law_68 : decode cL_law 68 = .ok (.iconst 0, 1) := by decide +kernel
theorem dL_law_69 : decode cL_law 69 = .ok (.istore 6, 2) := by decide +kernel
theorem dL_law_71 : decode cL_law 71 = .ok (.iconst 0, 1) := by decide +kernel
theorem dL_law_72 : decode cL_law 72 = .ok (.istore 7, 2) := by decide +kernel
theorem dL_law_74 : decode cL_law 74 = .ok (.iload 7, 2) := by decide +kernel
theorem dL_law_76 : decode cL_law 76 = .ok (.bipush 7, 2) := by decide +kernel
theorem dL_law_78 : decode cL_law 78 = .ok (.if_icmp .ge 68, 3) := by decide +kernel
theorem dL_law_81 : decode cL_law 81 = .ok (.iload 6, 2) := by decide +kernel
theorem dL_law_83 : decode cL_law 83 = .ok (.ifCond .eq 63, 3) := by decide +kernel
theorem dL_law_86 : decode cL_law 86 = .ok (.aload_n 1, 1) := by decide +kernel
theorem dL_law_87 : decode cL_law 87 = .ok (.aload_n 2, 1) := by decide +kernel
theorem dL_law_88 : decode cL_law 88 = .ok (.aload_n 3, 1) := by decide +kernel
theorem dL_law_89 : decode cL_law 89 = .ok (.aload 4, 2) := by decide +kernel
theorem dL_law_91 : decode cL_law 91 = .ok (.aload 5, 2) := by decide +kernel
theorem dL_law_93 : decode cL_law 93 = .ok (.aload_n 0, 1) := by decide +kernel
theorem dL_law_94 : decode cL_law 94 = .ok (.iconst 1, 1) := by decide +kernel
theorem dL_law_95 : decode cL_law 95 = .ok (.iload 7, 2) := by decide +kernel
theorem dL_law_97 : decode cL_law 97 = .ok (.iadd, 1) := by decide +kernel
theorem dL_law_98 : decode cL_law 98 = .ok (.invokestatic 102, 3) := by decide +kernel
theorem dL_law_101 : decode cL_law 101 = .ok (.ldc 8, 2) := by decide +kernel
theorem dL_law_103 : decode cL_law 103 = .ok (.iand, 1) := by decide +kernel
theorem dL_law_104 : decode cL_law 104 = .ok (.sipush 192, 3) := by decide +kernel
theorem dL_law_107 : decode cL_law 107 = .ok (.idiv, 1) := by decide +kernel
theorem dL_law_108 : decode cL_law 108 = .ok (.sipush 192, 3) := by decide +kernel
theorem dL_law_111 : decode cL_law 111 = .ok (.imul, 1) := by decide +kernel
theorem dL_law_112 : decode cL_law 112 = .ok (.iload 7, 2) := by decide +kernel
theorem dL_law_114 : decode cL_law 114 = .ok (.iconst 2, 1) := by decide +kernel
theorem dL_law_115 : decode cL_law 115 = .ok (.if_icmp .ge 7, 3) := by decide +kernel
theorem dL_law_118 : decode cL_law 118 = .ok (.iconst 0, 1) := by decide +kernel
theorem dL_law_119 : decode cL_law 119 = .ok (.goto 15, 3) := by decide +kernel
theorem dL_law_122 : decode cL_law 122 = .ok (.iload 7, 2) := by decide +kernel
theorem dL_law_124 : decode cL_law 124 = .ok (.iconst 4, 1) := by decide +kernel
theorem dL_law_125 : decode cL_law 125 = .ok (.if_icmp .ge 7, 3) := by decide +kernel
theorem dL_law_128 : decode cL_law 128 = .ok (.iconst 5, 1) := by decide +kernel
theorem dL_law_129 : decode cL_law 129 = .ok (.goto 5, 3) := by decide +kernel
theorem dL_law_132 : decode cL_law 132 = .ok (.bipush 13, 2) := by decide +kernel
theorem dL_law_134 : decode cL_law 134 = .ok (.iadd, 1) := by decide +kernel
theorem dL_law_135 : decode cL_law 135 = .ok (.invokestatic 106, 3) := by decide +kernel
theorem dL_law_138 : decode cL_law 138 = .ok (.istore 6, 2) := by decide +kernel
theorem dL_law_140 : decode cL_law 140 = .ok (.iinc 7 1, 3) := by decide +kernel
theorem dL_law_143 : decode cL_law 143 = .ok (.goto (-69), 3) := by decide +kernel
theorem dL_law_146 : decode cL_law 146 = .ok (.iload 6, 2) := by decide +kernel
theorem dL_law_148 : decode cL_law 148 = .ok (.ifCond .eq 20, 3) := by decide +kernel
theorem dL_law_151 : decode cL_law 151 = .ok (.aload_n 1, 1) := by decide +kernel
theorem dL_law_152 : decode cL_law 152 = .ok (.aload_n 2, 1) := by decide +kernel
theorem dL_law_153 : decode cL_law 153 = .ok (.aload_n 3, 1) := by decide +kernel
theorem dL_law_154 : decode cL_law 154 = .ok (.aload 4, 2) := by decide +kernel
theorem dL_law_156 : decode cL_law 156 = .ok (.aload 5, 2) := by decide +kernel
theorem dL_law_158 : decode cL_law 158 = .ok (.invokestatic 110, 3) := by decide +kernel
theorem dL_law_161 : decode cL_law 161 = .ok (.ifCond .eq 7, 3) := by decide +kernel
theorem dL_law_164 : decode cL_law 164 = .ok (.iconst 1, 1) := by decide +kernel
theorem dL_law_165 : decode cL_law 165 = .ok (.goto 4, 3) := by decide +kernel
theorem dL_law_168 : decode cL_law 168 = .ok (.iconst 0, 1) := by decide +kernel
theorem dL_law_169 : decode cL_law 169 = .ok (.istore 6, 2) := by decide +kernel
theorem dL_law_171 : decode cL_law 171 = .ok (.bipush 16, 2) := by decide +kernel
theorem dL_law_173 : decode cL_law 173 = .ok (.aload_n 0, 1) := by decide +kernel
theorem dL_law_174 : decode cL_law 174 = .ok (.iconst 0, 1) := by decide +kernel
theorem dL_law_175 : decode cL_law 175 = .ok (.invokestatic 102, 3) := by decide +kernel
theorem dL_law_178 : decode cL_law 178 = .ok (.bipush 60, 2) := by decide +kernel
theorem dL_law_180 : decode cL_law 180 = .ok (.invokestatic 51, 3) := by decide +kernel
theorem dL_law_183 : decode cL_law 183 = .ok (.iadd, 1) := by decide +kernel
theorem dL_law_184 : decode cL_law 184 = .ok (.istore 7, 2) := by decide +kernel
theorem dL_law_186 : decode cL_law 186 = .ok (.iconst 0, 1) := by decide +kernel
theorem dL_law_187 : decode cL_law 187 = .ok (.istore 8, 2) := by decide +kernel
theorem dL_law_189 : decode cL_law 189 = .ok (.iload 8, 2) := by decide +kernel
theorem dL_law_191 : decode cL_law 191 = .ok (.iload 7, 2) := by decide +kernel
theorem dL_law_193 : decode cL_law 193 = .ok (.if_icmp .ge 63, 3) := by decide +kernel
theorem dL_law_196 : decode cL_law 196 = .ok (.iload 6, 2) := by decide +kernel
theorem dL_law_198 : decode cL_law 198 = .ok (.ifCond .eq 58, 3) := by decide +kernel
theorem dL_law_201 : decode cL_law 201 = .ok (.aload_n 1, 1) := by decide +kernel
theorem dL_law_202 : decode cL_law 202 = .ok (.aload_n 2, 1) := by decide +kernel
theorem dL_law_203 : decode cL_law 203 = .ok (.aload_n 3, 1) := by decide +kernel
theorem dL_law_204 : decode cL_law 204 = .ok (.aload 4, 2) := by decide +kernel
theorem dL_law_206 : decode cL_law 206 = .ok (.aload 5, 2) := by decide +kernel
theorem dL_law_208 : decode cL_law 208 = .ok (.aload_n 0, 1) := by decide +kernel
theorem dL_law_209 : decode cL_law 209 = .ok (.bipush 8, 2) := by decide +kernel
theorem dL_law_211 : decode cL_law 211 = .ok (.iload 8, 2) := by decide +kernel
theorem dL_law_213 : decode cL_law 213 = .ok (.iadd, 1) := by decide +kernel
theorem dL_law_214 : decode cL_law 214 = .ok (.invokestatic 102, 3) := by decide +kernel
theorem dL_law_217 : decode cL_law 217 = .ok (.sipush 7919, 3) := by decide +kernel
theorem dL_law_220 : decode cL_law 220 = .ok (.iload 8, 2) := by decide +kernel
theorem dL_law_222 : decode cL_law 222 = .ok (.imul, 1) := by decide +kernel
theorem dL_law_223 : decode cL_law 223 = .ok (.ixor, 1) := by decide +kernel
theorem dL_law_224 : decode cL_law 224 = .ok (.invokestatic 106, 3) := by decide +kernel
theorem dL_law_227 : decode cL_law 227 = .ok (.ifCond .eq 20, 3) := by decide +kernel
theorem dL_law_230 : decode cL_law 230 = .ok (.aload_n 1, 1) := by decide +kernel
theorem dL_law_231 : decode cL_law 231 = .ok (.aload_n 2, 1) := by decide +kernel
theorem dL_law_232 : decode cL_law 232 = .ok (.aload_n 3, 1) := by decide +kernel
theorem dL_law_233 : decode cL_law 233 = .ok (.aload 4, 2) := by decide +kernel
theorem dL_law_235 : decode cL_law 235 = .ok (.aload 5, 2) := by decide +kernel
theorem dL_law_237 : decode cL_law 237 = .ok (.invokestatic 110, 3) := by decide +kernel
theorem dL_law_240 : decode cL_law 240 = .ok (.ifCond .eq 7, 3) := by decide +kernel
theorem dL_law_243 : decode cL_law 243 = .ok (.iconst 1, 1) := by decide +kernel
theorem dL_law_244 : decode cL_law 244 = .ok (.goto 4, 3) := by decide +kernel
theorem dL_law_247 : decode cL_law 247 = .ok (.iconst 0, 1) := by decide +kernel
theorem dL_law_248 : decode cL_law 248 = .ok (.istore 6, 2) := by decide +kernel
theorem dL_law_250 : decode cL_law 250 = .ok (.iinc 8 1, 3) := by decide +kernel
theorem dL_law_253 : decode cL_law 253 = .ok (.goto (-64), 3) := by decide +kernel
theorem dL_law_256 : decode cL_law 256 = .ok (.iload 6, 2) := by decide +kernel
theorem dL_law_258 : decode cL_law 258 = .ok (.ifCond .eq 28, 3) := by decide +kernel
theorem dL_law_261 : decode cL_law 261 = .ok (.aload_n 1, 1) := by decide +kernel
theorem dL_law_262 : decode cL_law 262 = .ok (.bipush 24, 2) := by decide +kernel
theorem dL_law_264 : decode cL_law 264 = .ok (.invokevirtual 81, 3) := by decide +kernel
theorem dL_law_267 : decode cL_law 267 = .ok (.ldc 40, 2) := by decide +kernel
theorem dL_law_269 : decode cL_law 269 = .ok (.if_icmp .ne 17, 3) := by decide +kernel
theorem dL_law_272 : decode cL_law 272 = .ok (.aload_n 1, 1) := by decide +kernel
theorem dL_law_273 : decode cL_law 273 = .ok (.iconst (-1), 1) := by decide +kernel
theorem dL_law_274 : decode cL_law 274 = .ok (.invokevirtual 81, 3) := by decide +kernel
theorem dL_law_277 : decode cL_law 277 = .ok (.ldc 40, 2) := by decide +kernel
theorem dL_law_279 : decode cL_law 279 = .ok (.if_icmp .ne 7, 3) := by decide +kernel
theorem dL_law_282 : decode cL_law 282 = .ok (.iconst 1, 1) := by decide +kernel
theorem dL_law_283 : decode cL_law 283 = .ok (.goto 4, 3) := by decide +kernel
theorem dL_law_286 : decode cL_law 286 = .ok (.iconst 0, 1) := by decide +kernel
theorem dL_law_287 : decode cL_law 287 = .ok (.ireturn, 1) := by decide +kernel
