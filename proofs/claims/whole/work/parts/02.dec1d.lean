theorem dX1_system_0 : decode cX1_system 0 = .ok (.aload_n 0, 1) := by decide +kernel
theorem dX1_system_1 : decode cX1_system 1 = .ok (.getfield 25, 3) := by decide +kernel
theorem dX1_system_4 : decode cX1_system 4 = .ok (.iconst 2, 1) := by decide +kernel
theorem dX1_system_5 : decode cX1_system 5 = .ok (.iaload, 1) := by decide +kernel
theorem dX1_system_6 : decode cX1_system 6 = .ok (.tableswitch 141 1 3 #[26, 83, 124], 26) := by decide +kernel
theorem dX1_system_32 : decode cX1_system 32 = .ok (.aload_n 0, 1) := by decide +kernel
theorem dX1_system_33 : decode cX1_system 33 = .ok (.getfield 25, 3) := by decide +kernel
theorem dX1_system_36 : decode cX1_system 36 = .ok (.iconst 2, 1) := by decide +kernel
theorem dX1_system_37 : decode cX1_system 37 = .ok (.aload_n 0, 1) := by decide +kernel
theorem dX1_system_38 : decode cX1_system 38 = .ok (.getfield 42, 3) := by decide +kernel
theorem dX1_system_41 : decode cX1_system 41 = .ok (.aload_n 0, 1) := by decide +kernel
theorem dX1_system_42 : decode cX1_system 42 = .ok (.getfield 33, 3) := by decide +kernel
theorem dX1_system_45 : decode cX1_system 45 = .ok (.if_icmp .ge 15, 3) := by decide +kernel
theorem dX1_system_48 : decode cX1_system 48 = .ok (.aload_n 0, 1) := by decide +kernel
theorem dX1_system_49 : decode cX1_system 49 = .ok (.getfield 19, 3) := by decide +kernel
theorem dX1_system_52 : decode cX1_system 52 = .ok (.aload_n 0, 1) := by decide +kernel
theorem dX1_system_53 : decode cX1_system 53 = .ok (.getfield 42, 3) := by decide +kernel
theorem dX1_system_56 : decode cX1_system 56 = .ok (.iaload, 1) := by decide +kernel
theorem dX1_system_57 : decode cX1_system 57 = .ok (.goto 4, 3) := by decide +kernel
theorem dX1_system_60 : decode cX1_system 60 = .ok (.iconst (-1), 1) := by decide +kernel
theorem dX1_system_61 : decode cX1_system 61 = .ok (.iastore, 1) := by decide +kernel
theorem dX1_system_62 : decode cX1_system 62 = .ok (.aload_n 0, 1) := by decide +kernel
theorem dX1_system_63 : decode cX1_system 63 = .ok (.dup, 1) := by decide +kernel
theorem dX1_system_64 : decode cX1_system 64 = .ok (.getfield 42, 3) := by decide +kernel
theorem dX1_system_67 : decode cX1_system 67 = .ok (.aload_n 0, 1) := by decide +kernel
theorem dX1_system_68 : decode cX1_system 68 = .ok (.getfield 42, 3) := by decide +kernel
theorem dX1_system_71 : decode cX1_system 71 = .ok (.aload_n 0, 1) := by decide +kernel
theorem dX1_system_72 : decode cX1_system 72 = .ok (.getfield 33, 3) := by decide +kernel
theorem dX1_system_75 : decode cX1_system 75 = .ok (.if_icmp .ge 7, 3) := by decide +kernel
theorem dX1_system_78 : decode cX1_system 78 = .ok (.iconst 1, 1) := by decide +kernel
theorem dX1_system_79 : decode cX1_system 79 = .ok (.goto 4, 3) := by decide +kernel
theorem dX1_system_82 : decode cX1_system 82 = .ok (.iconst 0, 1) := by decide +kernel
theorem dX1_system_83 : decode cX1_system 83 = .ok (.iadd, 1) := by decide +kernel
theorem dX1_system_84 : decode cX1_system 84 = .ok (.putfield 42, 3) := by decide +kernel
theorem dX1_system_87 : decode cX1_system 87 = .ok (.iconst 0, 1) := by decide +kernel
theorem dX1_system_88 : decode cX1_system 88 = .ok (.ireturn, 1) := by decide +kernel
theorem dX1_system_89 : decode cX1_system 89 = .ok (.aload_n 0, 1) := by decide +kernel
theorem dX1_system_90 : decode cX1_system 90 = .ok (.getfield 45, 3) := by decide +kernel
theorem dX1_system_93 : decode cX1_system 93 = .ok (.sipush 256, 3) := by decide +kernel
theorem dX1_system_96 : decode cX1_system 96 = .ok (.if_icmp .ge 32, 3) := by decide +kernel
theorem dX1_system_99 : decode cX1_system 99 = .ok (.aload_n 0, 1) := by decide +kernel
theorem dX1_system_100 : decode cX1_system 100 = .ok (.getfield 22, 3) := by decide +kernel
theorem dX1_system_103 : decode cX1_system 103 = .ok (.aload_n 0, 1) := by decide +kernel
theorem dX1_system_104 : decode cX1_system 104 = .ok (.getfield 45, 3) := by decide +kernel
theorem dX1_system_107 : decode cX1_system 107 = .ok (.aload_n 0, 1) := by decide +kernel
theorem dX1_system_108 : decode cX1_system 108 = .ok (.getfield 25, 3) := by decide +kernel
theorem dX1_system_111 : decode cX1_system 111 = .ok (.iconst 4, 1) := by decide +kernel
theorem dX1_system_112 : decode cX1_system 112 = .ok (.iaload, 1) := by decide +kernel
theorem dX1_system_113 : decode cX1_system 113 = .ok (.sipush 255, 3) := by decide +kernel
theorem dX1_system_116 : decode cX1_system 116 = .ok (.iand, 1) := by decide +kernel
theorem dX1_system_117 : decode cX1_system 117 = .ok (.iastore, 1) := by decide +kernel
theorem dX1_system_118 : decode cX1_system 118 = .ok (.aload_n 0, 1) := by decide +kernel
theorem dX1_system_119 : decode cX1_system 119 = .ok (.dup, 1) := by decide +kernel
theorem dX1_system_120 : decode cX1_system 120 = .ok (.getfield 45, 3) := by decide +kernel
theorem dX1_system_123 : decode cX1_system 123 = .ok (.iconst 1, 1) := by decide +kernel
theorem dX1_system_124 : decode cX1_system 124 = .ok (.iadd, 1) := by decide +kernel
theorem dX1_system_125 : decode cX1_system 125 = .ok (.putfield 45, 3) := by decide +kernel
theorem dX1_system_128 : decode cX1_system 128 = .ok (.iconst 0, 1) := by decide +kernel
theorem dX1_system_129 : decode cX1_system 129 = .ok (.ireturn, 1) := by decide +kernel
theorem dX1_system_130 : decode cX1_system 130 = .ok (.aload_n 0, 1) := by decide +kernel
theorem dX1_system_131 : decode cX1_system 131 = .ok (.iconst 1, 1) := by decide +kernel
theorem dX1_system_132 : decode cX1_system 132 = .ok (.putfield 51, 3) := by decide +kernel
theorem dX1_system_135 : decode cX1_system 135 = .ok (.aload_n 0, 1) := by decide +kernel
theorem dX1_system_136 : decode cX1_system 136 = .ok (.aload_n 0, 1) := by decide +kernel
theorem dX1_system_137 : decode cX1_system 137 = .ok (.getfield 25, 3) := by decide +kernel
theorem dX1_system_140 : decode cX1_system 140 = .ok (.iconst 4, 1) := by decide +kernel
theorem dX1_system_141 : decode cX1_system 141 = .ok (.iaload, 1) := by decide +kernel
theorem dX1_system_142 : decode cX1_system 142 = .ok (.putfield 58, 3) := by decide +kernel
theorem dX1_system_145 : decode cX1_system 145 = .ok (.iconst 0, 1) := by decide +kernel
theorem dX1_system_146 : decode cX1_system 146 = .ok (.ireturn, 1) := by decide +kernel
theorem dX1_system_147 : decode cX1_system 147 = .ok (.bipush 10, 2) := by decide +kernel
theorem dX1_system_149 : decode cX1_system 149 = .ok (.ireturn, 1) := by decide +kernel
theorem dX1_atOnce_0 : decode cX1_atOnce 0 = .ok (.aload_n 0, 1) := by decide +kernel
theorem dX1_atOnce_1 : decode cX1_atOnce 1 = .ok (.getfield 25, 3) := by decide +kernel
theorem dX1_atOnce_4 : decode cX1_atOnce 4 = .ok (.iload_n 1, 1) := by decide +kernel
theorem dX1_atOnce_5 : decode cX1_atOnce 5 = .ok (.invokestatic 68, 3) := by decide +kernel
theorem dX1_atOnce_8 : decode cX1_atOnce 8 = .ok (.iaload, 1) := by decide +kernel
theorem dX1_atOnce_9 : decode cX1_atOnce 9 = .ok (.istore_n 2, 1) := by decide +kernel
theorem dX1_atOnce_10 : decode cX1_atOnce 10 = .ok (.iload_n 1, 1) := by decide +kernel
theorem dX1_atOnce_11 : decode cX1_atOnce 11 = .ok (.invokestatic 65, 3) := by decide +kernel
theorem dX1_atOnce_14 : decode cX1_atOnce 14 = .ok (.istore_n 3, 1) := by decide +kernel
theorem dX1_atOnce_15 : decode cX1_atOnce 15 = .ok (.iload_n 1, 1) := by decide +kernel
theorem dX1_atOnce_16 : decode cX1_atOnce 16 = .ok (.invokestatic 78, 3) := by decide +kernel
theorem dX1_atOnce_19 : decode cX1_atOnce 19 = .ok (.istore 4, 2) := by decide +kernel
theorem dX1_atOnce_21 : decode cX1_atOnce 21 = .ok (.iload_n 1, 1) := by decide +kernel
theorem dX1_atOnce_22 : decode cX1_atOnce 22 = .ok (.ldc 117, 2) := by decide +kernel
theorem dX1_atOnce_24 : decode cX1_atOnce 24 = .ok (.iand, 1) := by decide +kernel
theorem dX1_atOnce_25 : decode cX1_atOnce 25 = .ok (.istore 5, 2) := by decide +kernel
theorem dX1_atOnce_27 : decode cX1_atOnce 27 = .ok (.iload_n 1, 1) := by decide +kernel
theorem dX1_atOnce_28 : decode cX1_atOnce 28 = .ok (.invokestatic 61, 3) := by decide +kernel
theorem dX1_atOnce_31 : decode cX1_atOnce 31 = .ok (.tableswitch 420 0 43 #[189, 420, 420, 420, 420, 420, 420, 420, 195, 207, 218, 236, 265, 276, 287, 298, 420, 420, 420, 420, 420, 420, 420, 420, 420, 420, 420, 420, 420, 420, 420, 420, 310, 335, 420, 360, 310, 335, 420, 420, 372, 388, 420, 404], 189) := by decide +kernel
theorem dX1_atOnce_220 : decode cX1_atOnce 220 = .ok (.aload_n 0, 1) := by decide +kernel
theorem dX1_atOnce_221 : decode cX1_atOnce 221 = .ok (.iload_n 1, 1) := by decide +kernel
theorem dX1_atOnce_222 : decode cX1_atOnce 222 = .ok (.invokevirtual 118, 3) := by decide +kernel
theorem dX1_atOnce_225 : decode cX1_atOnce 225 = .ok (.ireturn, 1) := by decide +kernel
theorem dX1_atOnce_226 : decode cX1_atOnce 226 = .ok (.aload_n 0, 1) := by decide +kernel
theorem dX1_atOnce_227 : decode cX1_atOnce 227 = .ok (.iload_n 3, 1) := by decide +kernel
theorem dX1_atOnce_228 : decode cX1_atOnce 228 = .ok (.iload_n 2, 1) := by decide +kernel
theorem dX1_atOnce_229 : decode cX1_atOnce 229 = .ok (.i2l, 1) := by decide +kernel
theorem dX1_atOnce_230 : decode cX1_atOnce 230 = .ok (.iload 4, 2) := by decide +kernel
theorem dX1_atOnce_232 : decode cX1_atOnce 232 = .ok (.i2l, 1) := by decide +kernel
theorem dX1_atOnce_233 : decode cX1_atOnce 233 = .ok (.ladd, 1) := by decide +kernel
theorem dX1_atOnce_234 : decode cX1_atOnce 234 = .ok (.invokevirtual 113, 3) := by decide +kernel
theorem dX1_atOnce_237 : decode cX1_atOnce 237 = .ok (.ireturn, 1) := by decide +kernel
theorem dX1_atOnce_238 : decode cX1_atOnce 238 = .ok (.aload_n 0, 1) := by decide +kernel
theorem dX1_atOnce_239 : decode cX1_atOnce 239 = .ok (.iload_n 3, 1) := by decide +kernel
theorem dX1_atOnce_240 : decode cX1_atOnce 240 = .ok (.iload_n 2, 1) := by decide +kernel
theorem dX1_atOnce_241 : decode cX1_atOnce 241 = .ok (.iload 4, 2) := by decide +kernel
theorem dX1_atOnce_243 : decode cX1_atOnce 243 = .ok (.iadd, 1) := by decide +kernel
theorem dX1_atOnce_244 : decode cX1_atOnce 244 = .ok (.invokevirtual 93, 3) := by decide +kernel
theorem dX1_atOnce_247 : decode cX1_atOnce 247 = .ok (.iconst 0, 1) := by decide +kernel
theorem dX1_atOnce_248 : decode cX1_atOnce 248 = .ok (.ireturn, 1) := by decide +kernel
theorem dX1_atOnce_249 : decode cX1_atOnce 249 = .ok (.aload_n 0, 1) := by decide +kernel
theorem dX1_atOnce_250 : decode cX1_atOnce 250 = .ok (.iload_n 3, 1) := by decide +kernel
theorem dX1_atOnce_251 : decode cX1_atOnce 251 = .ok (.iload_n 2, 1) := by decide +kernel
theorem dX1_atOnce_252 : decode cX1_atOnce 252 = .ok (.iload 4, 2) := by decide +kernel
theorem dX1_atOnce_254 : decode cX1_atOnce 254 = .ok (.if_icmp .ge 7, 3) := by decide +kernel
theorem dX1_atOnce_257 : decode cX1_atOnce 257 = .ok (.iconst 1, 1) := by decide +kernel
theorem dX1_atOnce_258 : decode cX1_atOnce 258 = .ok (.goto 4, 3) := by decide +kernel
theorem dX1_atOnce_261 : decode cX1_atOnce 261 = .ok (.iconst 0, 1) := by decide +kernel
theorem dX1_atOnce_262 : decode cX1_atOnce 262 = .ok (.invokevirtual 93, 3) := by decide +kernel
theorem dX1_atOnce_265 : decode cX1_atOnce 265 = .ok (.iconst 0, 1) := by decide +kernel
theorem dX1_atOnce_266 : decode cX1_atOnce 266 = .ok (.ireturn, 1) := by decide +kernel
theorem dX1_atOnce_267 : decode cX1_atOnce 267 = .ok (.aload_n 0, 1) := by decide +kernel
theorem dX1_atOnce_268 : decode cX1_atOnce 268 = .ok (.iload_n 3, 1) := by decide +kernel
theorem dX1_atOnce_269 : decode cX1_atOnce 269 = .ok (.iload_n 2, 1) := by decide +kernel
theorem dX1_atOnce_270 : decode cX1_atOnce 270 = .ok (.i2l, 1) := by decide +kernel
theorem dX1_atOnce_271 : decode cX1_atOnce 271 = .ok (.ldc2_w 105, 3) := by decide +kernel
theorem dX1_atOnce_274 : decode cX1_atOnce 274 = .ok (.land, 1) := by decide +kernel
theorem dX1_atOnce_275 : decode cX1_atOnce 275 = .ok (.iload 4, 2) := by decide +kernel
theorem dX1_atOnce_277 : decode cX1_atOnce 277 = .ok (.i2l, 1) := by decide +kernel
theorem dX1_atOnce_278 : decode cX1_atOnce 278 = .ok (.ldc2_w 105, 3) := by decide +kernel
theorem dX1_atOnce_281 : decode cX1_atOnce 281 = .ok (.land, 1) := by decide +kernel
theorem dX1_atOnce_282 : decode cX1_atOnce 282 = .ok (.lcmp, 1) := by decide +kernel
theorem dX1_atOnce_283 : decode cX1_atOnce 283 = .ok (.ifCond .ge 7, 3) := by decide +kernel
theorem dX1_atOnce_286 : decode cX1_atOnce 286 = .ok (.iconst 1, 1) := by decide +kernel
theorem dX1_atOnce_287 : decode cX1_atOnce 287 = .ok (.goto 4, 3) := by decide +kernel
theorem dX1_atOnce_290 : decode cX1_atOnce 290 = .ok (.iconst 0, 1) := by decide +kernel
theorem dX1_atOnce_291 : decode cX1_atOnce 291 = .ok (.invokevirtual 93, 3) := by decide +kernel
theorem dX1_atOnce_294 : decode cX1_atOnce 294 = .ok (.iconst 0, 1) := by decide +kernel
theorem dX1_atOnce_295 : decode cX1_atOnce 295 = .ok (.ireturn, 1) := by decide +kernel
theorem dX1_atOnce_296 : decode cX1_atOnce 296 = .ok (.aload_n 0, 1) := by decide +kernel
theorem dX1_atOnce_297 : decode cX1_atOnce 297 = .ok (.iload_n 3, 1) := by decide +kernel
theorem dX1_atOnce_298 : decode cX1_atOnce 298 = .ok (.iload_n 2, 1) := by decide +kernel
theorem dX1_atOnce_299 : decode cX1_atOnce 299 = .ok (.iload 5, 2) := by decide +kernel
theorem dX1_atOnce_301 : decode cX1_atOnce 301 = .ok (.iand, 1) := by decide +kernel
theorem dX1_atOnce_302 : decode cX1_atOnce 302 = .ok (.invokevirtual 93, 3) := by decide +kernel
theorem dX1_atOnce_305 : decode cX1_atOnce 305 = .ok (.iconst 0, 1) := by decide +kernel
theorem dX1_atOnce_306 : decode cX1_atOnce 306 = .ok (.ireturn, 1) := by decide +kernel
theorem dX1_atOnce_307 : decode cX1_atOnce 307 = .ok (.aload_n 0, 1) := by decide +kernel
theorem dX1_atOnce_308 : decode cX1_atOnce 308 = .ok (.iload_n 3, 1) := by decide +kernel
theorem dX1_atOnce_309 : decode cX1_atOnce 309 = .ok (.iload_n 2, 1) := by decide +kernel
theorem dX1_atOnce_310 : decode cX1_atOnce 310 = .ok (.iload 5, 2) := by decide +kernel
theorem dX1_atOnce_312 : decode cX1_atOnce 312 = .ok (.ior, 1) := by decide +kernel
theorem dX1_atOnce_313 : decode cX1_atOnce 313 = .ok (.invokevirtual 93, 3) := by decide +kernel
theorem dX1_atOnce_316 : decode cX1_atOnce 316 = .ok (.iconst 0, 1) := by decide +kernel
theorem dX1_atOnce_317 : decode cX1_atOnce 317 = .ok (.ireturn, 1) := by decide +kernel
theorem dX1_atOnce_318 : decode cX1_atOnce 318 = .ok (.aload_n 0, 1) := by decide +kernel
theorem dX1_atOnce_319 : decode cX1_atOnce 319 = .ok (.iload_n 3, 1) := by decide +kernel
theorem dX1_atOnce_320 : decode cX1_atOnce 320 = .ok (.iload_n 2, 1) := by decide +kernel
theorem dX1_atOnce_321 : decode cX1_atOnce 321 = .ok (.iload 5, 2) := by decide +kernel
theorem dX1_atOnce_323 : decode cX1_atOnce 323 = .ok (.ixor, 1) := by decide +kernel
theorem dX1_atOnce_324 : decode cX1_atOnce 324 = .ok (.invokevirtual 93, 3) := by decide +kernel
theorem dX1_atOnce_327 : decode cX1_atOnce 327 = .ok (.iconst 0, 1) := by decide +kernel
theorem dX1_atOnce_328 : decode cX1_atOnce 328 = .ok (.ireturn, 1) := by decide +kernel
theorem dX1_atOnce_329 : decode cX1_atOnce 329 = .ok (.aload_n 0, 1) := by decide +kernel
theorem dX1_atOnce_330 : decode cX1_atOnce 330 = .ok (.iload_n 3, 1) := by decide +kernel
theorem dX1_atOnce_331 : decode cX1_atOnce 331 = .ok (.iload 5, 2) := by decide +kernel
theorem dX1_atOnce_333 : decode cX1_atOnce 333 = .ok (.bipush 16, 2) := by decide +kernel
theorem dX1_atOnce_335 : decode cX1_atOnce 335 = .ok (.ishl, 1) := by decide +kernel
theorem dX1_atOnce_336 : decode cX1_atOnce 336 = .ok (.invokevirtual 93, 3) := by decide +kernel
theorem dX1_atOnce_339 : decode cX1_atOnce 339 = .ok (.iconst 0, 1) := by decide +kernel
theorem dX1_atOnce_340 : decode cX1_atOnce 340 = .ok (.ireturn, 1) := by decide +kernel
theorem dX1_atOnce_341 : decode cX1_atOnce 341 = .ok (.aload_n 0, 1) := by decide +kernel
theorem dX1_atOnce_342 : decode cX1_atOnce 342 = .ok (.iload_n 3, 1) := by decide +kernel
theorem dX1_atOnce_343 : decode cX1_atOnce 343 = .ok (.iload_n 2, 1) := by decide +kernel
theorem dX1_atOnce_344 : decode cX1_atOnce 344 = .ok (.iload 4, 2) := by decide +kernel
theorem dX1_atOnce_346 : decode cX1_atOnce 346 = .ok (.iadd, 1) := by decide +kernel
theorem dX1_atOnce_347 : decode cX1_atOnce 347 = .ok (.iconst 1, 1) := by decide +kernel
theorem dX1_atOnce_348 : decode cX1_atOnce 348 = .ok (.iload_n 1, 1) := by decide +kernel
theorem dX1_atOnce_349 : decode cX1_atOnce 349 = .ok (.invokestatic 61, 3) := by decide +kernel
theorem dX1_atOnce_352 : decode cX1_atOnce 352 = .ok (.bipush 32, 2) := by decide +kernel
theorem dX1_atOnce_354 : decode cX1_atOnce 354 = .ok (.if_icmp .ne 7, 3) := by decide +kernel
theorem dX1_atOnce_357 : decode cX1_atOnce 357 = .ok (.iconst 1, 1) := by decide +kernel
theorem dX1_atOnce_358 : decode cX1_atOnce 358 = .ok (.goto 4, 3) := by decide +kernel
theorem dX1_atOnce_361 : decode cX1_atOnce 361 = .ok (.iconst 0, 1) := by decide +kernel
theorem dX1_atOnce_362 : decode cX1_atOnce 362 = .ok (.invokevirtual 121, 3) := by decide +kernel
theorem dX1_atOnce_365 : decode cX1_atOnce 365 = .ok (.ireturn, 1) := by decide +kernel
theorem dX1_atOnce_366 : decode cX1_atOnce 366 = .ok (.aload_n 0, 1) := by decide +kernel
theorem dX1_atOnce_367 : decode cX1_atOnce 367 = .ok (.iload_n 3, 1) := by decide +kernel
theorem dX1_atOnce_368 : decode cX1_atOnce 368 = .ok (.iload_n 2, 1) := by decide +kernel
theorem dX1_atOnce_369 : decode cX1_atOnce 369 = .ok (.iload 4, 2) := by decide +kernel
theorem dX1_atOnce_371 : decode cX1_atOnce 371 = .ok (.iadd, 1) := by decide +kernel
theorem dX1_atOnce_372 : decode cX1_atOnce 372 = .ok (.iconst 2, 1) := by decide +kernel
theorem dX1_atOnce_373 : decode cX1_atOnce 373 = .ok (.iload_n 1, 1) := by decide +kernel
theorem dX1_atOnce_374 : decode cX1_atOnce 374 = .ok (.invokestatic 61, 3) := by decide +kernel
theorem dX1_atOnce_377 : decode cX1_atOnce 377 = .ok (.bipush 33, 2) := by decide +kernel
theorem dX1_atOnce_379 : decode cX1_atOnce 379 = .ok (.if_icmp .ne 7, 3) := by decide +kernel
theorem dX1_atOnce_382 : decode cX1_atOnce 382 = .ok (.iconst 1, 1) := by decide +kernel
theorem dX1_atOnce_383 : decode cX1_atOnce 383 = .ok (.goto 4, 3) := by decide +kernel
theorem dX1_atOnce_386 : decode cX1_atOnce 386 = .ok (.iconst 0, 1) := by decide +kernel
theorem dX1_atOnce_387 : decode cX1_atOnce 387 = .ok (.invokevirtual 121, 3) := by decide +kernel
theorem dX1_atOnce_390 : decode cX1_atOnce 390 = .ok (.ireturn, 1) := by decide +kernel
theorem dX1_atOnce_391 : decode cX1_atOnce 391 = .ok (.aload_n 0, 1) := by decide +kernel
theorem dX1_atOnce_392 : decode cX1_atOnce 392 = .ok (.iload_n 3, 1) := by decide +kernel
theorem dX1_atOnce_393 : decode cX1_atOnce 393 = .ok (.iload_n 2, 1) := by decide +kernel
theorem dX1_atOnce_394 : decode cX1_atOnce 394 = .ok (.iload 4, 2) := by decide +kernel
theorem dX1_atOnce_396 : decode cX1_atOnce 396 = .ok (.iadd, 1) := by decide +kernel
theorem dX1_atOnce_397 : decode cX1_atOnce 397 = .ok (.iconst 4, 1) := by decide +kernel
theorem dX1_atOnce_398 : decode cX1_atOnce 398 = .ok (.iconst 0, 1) := by decide +kernel
theorem dX1_atOnce_399 : decode cX1_atOnce 399 = .ok (.invokevirtual 121, 3) := by decide +kernel
theorem dX1_atOnce_402 : decode cX1_atOnce 402 = .ok (.ireturn, 1) := by decide +kernel
theorem dX1_atOnce_403 : decode cX1_atOnce 403 = .ok (.aload_n 0, 1) := by decide +kernel
theorem dX1_atOnce_404 : decode cX1_atOnce 404 = .ok (.aload_n 0, 1) := by decide +kernel
theorem dX1_atOnce_405 : decode cX1_atOnce 405 = .ok (.getfield 25, 3) := by decide +kernel
theorem dX1_atOnce_408 : decode cX1_atOnce 408 = .ok (.iload_n 3, 1) := by decide +kernel
theorem dX1_atOnce_409 : decode cX1_atOnce 409 = .ok (.iaload, 1) := by decide +kernel
theorem dX1_atOnce_410 : decode cX1_atOnce 410 = .ok (.iload_n 2, 1) := by decide +kernel
theorem dX1_atOnce_411 : decode cX1_atOnce 411 = .ok (.iload 4, 2) := by decide +kernel
theorem dX1_atOnce_413 : decode cX1_atOnce 413 = .ok (.iadd, 1) := by decide +kernel
theorem dX1_atOnce_414 : decode cX1_atOnce 414 = .ok (.iconst 1, 1) := by decide +kernel
theorem dX1_atOnce_415 : decode cX1_atOnce 415 = .ok (.invokevirtual 125, 3) := by decide +kernel
theorem dX1_atOnce_418 : decode cX1_atOnce 418 = .ok (.ireturn, 1) := by decide +kernel
theorem dX1_atOnce_419 : decode cX1_atOnce 419 = .ok (.aload_n 0, 1) := by decide +kernel
theorem dX1_atOnce_420 : decode cX1_atOnce 420 = .ok (.aload_n 0, 1) := by decide +kernel
theorem dX1_atOnce_421 : decode cX1_atOnce 421 = .ok (.getfield 25, 3) := by decide +kernel
theorem dX1_atOnce_424 : decode cX1_atOnce 424 = .ok (.iload_n 3, 1) := by decide +kernel
theorem dX1_atOnce_425 : decode cX1_atOnce 425 = .ok (.iaload, 1) := by decide +kernel
theorem dX1_atOnce_426 : decode cX1_atOnce 426 = .ok (.iload_n 2, 1) := by decide +kernel
theorem dX1_atOnce_427 : decode cX1_atOnce 427 = .ok (.iload 4, 2) := by decide +kernel
theorem dX1_atOnce_429 : decode cX1_atOnce 429 = .ok (.iadd, 1) := by decide +kernel
theorem dX1_atOnce_430 : decode cX1_atOnce 430 = .ok (.iconst 2, 1) := by decide +kernel
theorem dX1_atOnce_431 : decode cX1_atOnce 431 = .ok (.invokevirtual 125, 3) := by decide +kernel
theorem dX1_atOnce_434 : decode cX1_atOnce 434 = .ok (.ireturn, 1) := by decide +kernel
theorem dX1_atOnce_435 : decode cX1_atOnce 435 = .ok (.aload_n 0, 1) := by decide +kernel
theorem dX1_atOnce_436 : decode cX1_atOnce 436 = .ok (.aload_n 0, 1) := by decide +kernel
theorem dX1_atOnce_437 : decode cX1_atOnce 437 = .ok (.getfield 25, 3) := by decide +kernel
theorem dX1_atOnce_440 : decode cX1_atOnce 440 = .ok (.iload_n 3, 1) := by decide +kernel
theorem dX1_atOnce_441 : decode cX1_atOnce 441 = .ok (.iaload, 1) := by decide +kernel
theorem dX1_atOnce_442 : decode cX1_atOnce 442 = .ok (.iload_n 2, 1) := by decide +kernel
theorem dX1_atOnce_443 : decode cX1_atOnce 443 = .ok (.iload 4, 2) := by decide +kernel
theorem dX1_atOnce_445 : decode cX1_atOnce 445 = .ok (.iadd, 1) := by decide +kernel
theorem dX1_atOnce_446 : decode cX1_atOnce 446 = .ok (.iconst 4, 1) := by decide +kernel
theorem dX1_atOnce_447 : decode cX1_atOnce 447 = .ok (.invokevirtual 125, 3) := by decide +kernel
theorem dX1_atOnce_450 : decode cX1_atOnce 450 = .ok (.ireturn, 1) := by decide +kernel
theorem dX1_atOnce_451 : decode cX1_atOnce 451 = .ok (.iconst 1, 1) := by decide +kernel
theorem dX1_atOnce_452 : decode cX1_atOnce 452 = .ok (.ireturn, 1) := by decide +kernel
theorem dX1_load_0 : decode cX1_load 0 = .ok (.iload_n 2, 1) := by decide +kernel
theorem dX1_load_1 : decode cX1_load 1 = .ok (.iload_n 3, 1) := by decide +kernel
theorem dX1_load_2 : decode cX1_load 2 = .ok (.irem, 1) := by decide +kernel
theorem dX1_load_3 : decode cX1_load 3 = .ok (.ifCond .eq 5, 3) := by decide +kernel
theorem dX1_load_6 : decode cX1_load 6 = .ok (.iconst 2, 1) := by decide +kernel
theorem dX1_load_7 : decode cX1_load 7 = .ok (.ireturn, 1) := by decide +kernel
theorem dX1_load_8 : decode cX1_load 8 = .ok (.iload_n 2, 1) := by decide +kernel
theorem dX1_load_9 : decode cX1_load 9 = .ok (.ldc 128, 2) := by decide +kernel
theorem dX1_load_11 : decode cX1_load 11 = .ok (.if_icmp .lt 9, 3) := by decide +kernel
theorem dX1_load_14 : decode cX1_load 14 = .ok (.iload_n 2, 1) := by decide +kernel
theorem dX1_load_15 : decode cX1_load 15 = .ok (.ldc 129, 2) := by decide +kernel
theorem dX1_load_17 : decode cX1_load 17 = .ok (.if_icmp .le 5, 3) := by decide +kernel
theorem dX1_load_20 : decode cX1_load 20 = .ok (.iconst 3, 1) := by decide +kernel
theorem dX1_load_21 : decode cX1_load 21 = .ok (.ireturn, 1) := by decide +kernel
theorem dX1_load_22 : decode cX1_load 22 = .ok (.iconst 0, 1) := by decide +kernel
theorem dX1_load_23 : decode cX1_load 23 = .ok (.istore 5, 2) := by decide +kernel
theorem dX1_load_25 : decode cX1_load 25 = .ok (.iconst 0, 1) := by decide +kernel
theorem dX1_load_26 : decode cX1_load 26 = .ok (.istore 6, 2) := by decide +kernel
theorem dX1_load_28 : decode cX1_load 28 = .ok (.iload 6, 2) := by decide +kernel
theorem dX1_load_30 : decode cX1_load 30 = .ok (.iload_n 3, 1) := by decide +kernel
theorem dX1_load_31 : decode cX1_load 31 = .ok (.if_icmp .ge 29, 3) := by decide +kernel
theorem dX1_load_34 : decode cX1_load 34 = .ok (.iload 5, 2) := by decide +kernel
theorem dX1_load_36 : decode cX1_load 36 = .ok (.bipush 8, 2) := by decide +kernel
theorem dX1_load_38 : decode cX1_load 38 = .ok (.ishl, 1) := by decide +kernel
theorem dX1_load_39 : decode cX1_load 39 = .ok (.aload_n 0, 1) := by decide +kernel
theorem dX1_load_40 : decode cX1_load 40 = .ok (.getfield 16, 3) := by decide +kernel
theorem dX1_load_43 : decode cX1_load 43 = .ok (.iload_n 2, 1) := by decide +kernel
theorem dX1_load_44 : decode cX1_load 44 = .ok (.ldc 128, 2) := by decide +kernel
theorem dX1_load_46 : decode cX1_load 46 = .ok (.isub, 1) := by decide +kernel
theorem dX1_load_47 : decode cX1_load 47 = .ok (.iload 6, 2) := by decide +kernel
theorem dX1_load_49 : decode cX1_load 49 = .ok (.iadd, 1) := by decide +kernel
theorem dX1_load_50 : decode cX1_load 50 = .ok (.iaload, 1) := by decide +kernel
theorem dX1_load_51 : decode cX1_load 51 = .ok (.ior, 1) := by decide +kernel
theorem dX1_load_52 : decode cX1_load 52 = .ok (.istore 5, 2) := by decide +kernel
theorem dX1_load_54 : decode cX1_load 54 = .ok (.iinc 6 1, 3) := by decide +kernel
theorem dX1_load_57 : decode cX1_load 57 = .ok (.goto (-29), 3) := by decide +kernel
theorem dX1_load_60 : decode cX1_load 60 = .ok (.bipush 32, 2) := by decide +kernel
theorem dX1_load_62 : decode cX1_load 62 = .ok (.bipush 8, 2) := by decide +kernel
theorem dX1_load_64 : decode cX1_load 64 = .ok (.iload_n 3, 1) := by decide +kernel
theorem dX1_load_65 : decode cX1_load 65 = .ok (.imul, 1) := by decide +kernel
theorem dX1_load_66 : decode cX1_load 66 = .ok (.isub, 1) := by decide +kernel
theorem dX1_load_67 : decode cX1_load 67 = .ok (.istore 6, 2) := by decide +kernel
theorem dX1_load_69 : decode cX1_load 69 = .ok (.aload_n 0, 1) := by decide +kernel
theorem dX1_load_70 : decode cX1_load 70 = .ok (.iload_n 1, 1) := by decide +kernel
theorem dX1_load_71 : decode cX1_load 71 = .ok (.iload 4, 2) := by decide +kernel
theorem dX1_load_73 : decode cX1_load 73 = .ok (.ifCond .eq 14, 3) := by decide +kernel
theorem dX1_load_76 : decode cX1_load 76 = .ok (.iload 5, 2) := by decide +kernel
theorem dX1_load_78 : decode cX1_load 78 = .ok (.iload 6, 2) := by decide +kernel
theorem dX1_load_80 : decode cX1_load 80 = .ok (.ishl, 1) := by decide +kernel
theorem dX1_load_81 : decode cX1_load 81 = .ok (.iload 6, 2) := by decide +kernel
theorem dX1_load_83 : decode cX1_load 83 = .ok (.ishr, 1) := by decide +kernel
theorem dX1_load_84 : decode cX1_load 84 = .ok (.goto 5, 3) := by decide +kernel
theorem dX1_load_87 : decode cX1_load 87 = .ok (.iload 5, 2) := by decide +kernel
theorem dX1_load_89 : decode cX1_load 89 = .ok (.invokevirtual 93, 3) := by decide +kernel
theorem dX1_load_92 : decode cX1_load 92 = .ok (.iconst 0, 1) := by decide +kernel
theorem dX1_load_93 : decode cX1_load 93 = .ok (.ireturn, 1) := by decide +kernel
theorem dX1_store_0 : decode cX1_store 0 = .ok (.iload_n 2, 1) := by decide +kernel
theorem dX1_store_1 : decode cX1_store 1 = .ok (.iload_n 3, 1) := by decide +kernel
theorem dX1_store_2 : decode cX1_store 2 = .ok (.irem, 1) := by decide +kernel
theorem dX1_store_3 : decode cX1_store 3 = .ok (.ifCond .eq 5, 3) := by decide +kernel
theorem dX1_store_6 : decode cX1_store 6 = .ok (.iconst 2, 1) := by decide +kernel
theorem dX1_store_7 : decode cX1_store 7 = .ok (.ireturn, 1) := by decide +kernel
theorem dX1_store_8 : decode cX1_store 8 = .ok (.iload_n 2, 1) := by decide +kernel
theorem dX1_store_9 : decode cX1_store 9 = .ok (.ldc 128, 2) := by decide +kernel
theorem dX1_store_11 : decode cX1_store 11 = .ok (.if_icmp .lt 9, 3) := by decide +kernel
theorem dX1_store_14 : decode cX1_store 14 = .ok (.iload_n 2, 1) := by decide +kernel
theorem dX1_store_15 : decode cX1_store 15 = .ok (.ldc 129, 2) := by decide +kernel
theorem dX1_store_17 : decode cX1_store 17 = .ok (.if_icmp .le 18, 3) := by decide +kernel
theorem dX1_store_20 : decode cX1_store 20 = .ok (.aload_n 0, 1) := by decide +kernel
theorem dX1_store_21 : decode cX1_store 21 = .ok (.iload_n 2, 1) := by decide +kernel
theorem dX1_store_22 : decode cX1_store 22 = .ok (.invokevirtual 130, 3) := by decide +kernel
theorem dX1_store_25 : decode cX1_store 25 = .ok (.ifCond .eq 8, 3) := by decide +kernel
theorem dX1_store_28 : decode cX1_store 28 = .ok (.bipush 6, 2) := by decide +kernel
theorem dX1_store_30 : decode cX1_store 30 = .ok (.goto 4, 3) := by decide +kernel
theorem dX1_store_33 : decode cX1_store 33 = .ok (.iconst 3, 1) := by decide +kernel
theorem dX1_store_34 : decode cX1_store 34 = .ok (.ireturn, 1) := by decide +kernel
theorem dX1_store_35 : decode cX1_store 35 = .ok (.iconst 0, 1) := by decide +kernel
theorem dX1_store_36 : decode cX1_store 36 = .ok (.istore 4, 2) := by decide +kernel
theorem dX1_store_38 : decode cX1_store 38 = .ok (.iload 4, 2) := by decide +kernel
theorem dX1_store_40 : decode cX1_store 40 = .ok (.iload_n 3, 1) := by decide +kernel
theorem dX1_store_41 : decode cX1_store 41 = .ok (.if_icmp .ge 36, 3) := by decide +kernel
theorem dX1_store_44 : decode cX1_store 44 = .ok (.aload_n 0, 1) := by decide +kernel
theorem dX1_store_45 : decode cX1_store 45 = .ok (.getfield 16, 3) := by decide +kernel
theorem dX1_store_48 : decode cX1_store 48 = .ok (.iload_n 2, 1) := by decide +kernel
theorem dX1_store_49 : decode cX1_store 49 = .ok (.ldc 128, 2) := by decide +kernel
theorem dX1_store_51 : decode cX1_store 51 = .ok (.isub, 1) := by decide +kernel
theorem dX1_store_52 : decode cX1_store 52 = .ok (.iload 4, 2) := by decide +kernel
theorem dX1_store_54 : decode cX1_store 54 = .ok (.iadd, 1) := by decide +kernel
theorem dX1_store_55 : decode cX1_store 55 = .ok (.iload_n 1, 1) := by decide +kernel
theorem dX1_store_56 : decode cX1_store 56 = .ok (.bipush 8, 2) := by decide +kernel
theorem dX1_store_58 : decode cX1_store 58 = .ok (.iload_n 3, 1) := by decide +kernel
theorem dX1_store_59 : decode cX1_store 59 = .ok (.iconst 1, 1) := by decide +kernel
theorem dX1_store_60 : decode cX1_store 60 = .ok (.isub, 1) := by decide +kernel
theorem dX1_store_61 : decode cX1_store 61 = .ok (.iload 4, 2) := by decide +kernel
theorem dX1_store_63 : decode cX1_store 63 = .ok (.isub, 1) := by decide +kernel
theorem dX1_store_64 : decode cX1_store 64 = .ok (.imul, 1) := by decide +kernel
theorem dX1_store_65 : decode cX1_store 65 = .ok (.iushr, 1) := by decide +kernel
theorem dX1_store_66 : decode cX1_store 66 = .ok (.sipush 255, 3) := by decide +kernel
theorem dX1_store_69 : decode cX1_store 69 = .ok (.iand, 1) := by decide +kernel
theorem dX1_store_70 : decode cX1_store 70 = .ok (.iastore, 1) := by decide +kernel
theorem dX1_store_71 : decode cX1_store 71 = .ok (.iinc 4 1, 3) := by decide +kernel
theorem dX1_store_74 : decode cX1_store 74 = .ok (.goto (-36), 3) := by decide +kernel
theorem dX1_store_77 : decode cX1_store 77 = .ok (.iconst 0, 1) := by decide +kernel
theorem dX1_store_78 : decode cX1_store 78 = .ok (.ireturn, 1) := by decide +kernel
