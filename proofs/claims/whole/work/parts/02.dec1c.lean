theorem dX1_byFunction_0 : decode cX1_byFunction 0 = .ok (.iload_n 1, 1) := by decide +kernel
theorem dX1_byFunction_1 : decode cX1_byFunction 1 = .ok (.bipush 63, 2) := by decide +kernel
theorem dX1_byFunction_3 : decode cX1_byFunction 3 = .ok (.iand, 1) := by decide +kernel
theorem dX1_byFunction_4 : decode cX1_byFunction 4 = .ok (.istore_n 2, 1) := by decide +kernel
theorem dX1_byFunction_5 : decode cX1_byFunction 5 = .ok (.aload_n 0, 1) := by decide +kernel
theorem dX1_byFunction_6 : decode cX1_byFunction 6 = .ok (.getfield 25, 3) := by decide +kernel
theorem dX1_byFunction_9 : decode cX1_byFunction 9 = .ok (.iload_n 1, 1) := by decide +kernel
theorem dX1_byFunction_10 : decode cX1_byFunction 10 = .ok (.invokestatic 68, 3) := by decide +kernel
theorem dX1_byFunction_13 : decode cX1_byFunction 13 = .ok (.iaload, 1) := by decide +kernel
theorem dX1_byFunction_14 : decode cX1_byFunction 14 = .ok (.istore_n 3, 1) := by decide +kernel
theorem dX1_byFunction_15 : decode cX1_byFunction 15 = .ok (.aload_n 0, 1) := by decide +kernel
theorem dX1_byFunction_16 : decode cX1_byFunction 16 = .ok (.getfield 25, 3) := by decide +kernel
theorem dX1_byFunction_19 : decode cX1_byFunction 19 = .ok (.iload_n 1, 1) := by decide +kernel
theorem dX1_byFunction_20 : decode cX1_byFunction 20 = .ok (.invokestatic 65, 3) := by decide +kernel
theorem dX1_byFunction_23 : decode cX1_byFunction 23 = .ok (.iaload, 1) := by decide +kernel
theorem dX1_byFunction_24 : decode cX1_byFunction 24 = .ok (.istore 4, 2) := by decide +kernel
theorem dX1_byFunction_26 : decode cX1_byFunction 26 = .ok (.iload_n 1, 1) := by decide +kernel
theorem dX1_byFunction_27 : decode cX1_byFunction 27 = .ok (.invokestatic 84, 3) := by decide +kernel
theorem dX1_byFunction_30 : decode cX1_byFunction 30 = .ok (.istore 5, 2) := by decide +kernel
theorem dX1_byFunction_32 : decode cX1_byFunction 32 = .ok (.iload_n 2, 1) := by decide +kernel
theorem dX1_byFunction_33 : decode cX1_byFunction 33 = .ok (.tableswitch 488 0 43 #[191, 488, 191, 191, 213, 488, 213, 213, 488, 488, 488, 488, 232, 237, 488, 488, 239, 254, 264, 279, 488, 488, 488, 488, 289, 301, 321, 330, 488, 488, 488, 488, 339, 352, 364, 377, 389, 401, 413, 425, 488, 488, 439, 458], 191) := by decide +kernel
theorem dX1_byFunction_224 : decode cX1_byFunction 224 = .ok (.aload_n 0, 1) := by decide +kernel
theorem dX1_byFunction_225 : decode cX1_byFunction 225 = .ok (.iload 5, 2) := by decide +kernel
theorem dX1_byFunction_227 : decode cX1_byFunction 227 = .ok (.aload_n 0, 1) := by decide +kernel
theorem dX1_byFunction_228 : decode cX1_byFunction 228 = .ok (.iload_n 2, 1) := by decide +kernel
theorem dX1_byFunction_229 : decode cX1_byFunction 229 = .ok (.iload 4, 2) := by decide +kernel
theorem dX1_byFunction_231 : decode cX1_byFunction 231 = .ok (.iload_n 1, 1) := by decide +kernel
theorem dX1_byFunction_232 : decode cX1_byFunction 232 = .ok (.bipush 6, 2) := by decide +kernel
theorem dX1_byFunction_234 : decode cX1_byFunction 234 = .ok (.iushr, 1) := by decide +kernel
theorem dX1_byFunction_235 : decode cX1_byFunction 235 = .ok (.bipush 31, 2) := by decide +kernel
theorem dX1_byFunction_237 : decode cX1_byFunction 237 = .ok (.iand, 1) := by decide +kernel
theorem dX1_byFunction_238 : decode cX1_byFunction 238 = .ok (.invokevirtual 89, 3) := by decide +kernel
theorem dX1_byFunction_241 : decode cX1_byFunction 241 = .ok (.invokevirtual 93, 3) := by decide +kernel
theorem dX1_byFunction_244 : decode cX1_byFunction 244 = .ok (.iconst 0, 1) := by decide +kernel
theorem dX1_byFunction_245 : decode cX1_byFunction 245 = .ok (.ireturn, 1) := by decide +kernel
theorem dX1_byFunction_246 : decode cX1_byFunction 246 = .ok (.aload_n 0, 1) := by decide +kernel
theorem dX1_byFunction_247 : decode cX1_byFunction 247 = .ok (.iload 5, 2) := by decide +kernel
theorem dX1_byFunction_249 : decode cX1_byFunction 249 = .ok (.aload_n 0, 1) := by decide +kernel
theorem dX1_byFunction_250 : decode cX1_byFunction 250 = .ok (.iload_n 2, 1) := by decide +kernel
theorem dX1_byFunction_251 : decode cX1_byFunction 251 = .ok (.iload 4, 2) := by decide +kernel
theorem dX1_byFunction_253 : decode cX1_byFunction 253 = .ok (.iload_n 3, 1) := by decide +kernel
theorem dX1_byFunction_254 : decode cX1_byFunction 254 = .ok (.bipush 31, 2) := by decide +kernel
theorem dX1_byFunction_256 : decode cX1_byFunction 256 = .ok (.iand, 1) := by decide +kernel
theorem dX1_byFunction_257 : decode cX1_byFunction 257 = .ok (.invokevirtual 89, 3) := by decide +kernel
theorem dX1_byFunction_260 : decode cX1_byFunction 260 = .ok (.invokevirtual 93, 3) := by decide +kernel
theorem dX1_byFunction_263 : decode cX1_byFunction 263 = .ok (.iconst 0, 1) := by decide +kernel
theorem dX1_byFunction_264 : decode cX1_byFunction 264 = .ok (.ireturn, 1) := by decide +kernel
theorem dX1_byFunction_265 : decode cX1_byFunction 265 = .ok (.aload_n 0, 1) := by decide +kernel
theorem dX1_byFunction_266 : decode cX1_byFunction 266 = .ok (.invokevirtual 97, 3) := by decide +kernel
theorem dX1_byFunction_269 : decode cX1_byFunction 269 = .ok (.ireturn, 1) := by decide +kernel
theorem dX1_byFunction_270 : decode cX1_byFunction 270 = .ok (.iconst 5, 1) := by decide +kernel
theorem dX1_byFunction_271 : decode cX1_byFunction 271 = .ok (.ireturn, 1) := by decide +kernel
theorem dX1_byFunction_272 : decode cX1_byFunction 272 = .ok (.aload_n 0, 1) := by decide +kernel
theorem dX1_byFunction_273 : decode cX1_byFunction 273 = .ok (.iload 5, 2) := by decide +kernel
theorem dX1_byFunction_275 : decode cX1_byFunction 275 = .ok (.aload_n 0, 1) := by decide +kernel
theorem dX1_byFunction_276 : decode cX1_byFunction 276 = .ok (.getfield 25, 3) := by decide +kernel
theorem dX1_byFunction_279 : decode cX1_byFunction 279 = .ok (.bipush 32, 2) := by decide +kernel
theorem dX1_byFunction_281 : decode cX1_byFunction 281 = .ok (.iaload, 1) := by decide +kernel
theorem dX1_byFunction_282 : decode cX1_byFunction 282 = .ok (.invokevirtual 93, 3) := by decide +kernel
theorem dX1_byFunction_285 : decode cX1_byFunction 285 = .ok (.iconst 0, 1) := by decide +kernel
theorem dX1_byFunction_286 : decode cX1_byFunction 286 = .ok (.ireturn, 1) := by decide +kernel
theorem dX1_byFunction_287 : decode cX1_byFunction 287 = .ok (.aload_n 0, 1) := by decide +kernel
theorem dX1_byFunction_288 : decode cX1_byFunction 288 = .ok (.getfield 25, 3) := by decide +kernel
theorem dX1_byFunction_291 : decode cX1_byFunction 291 = .ok (.bipush 32, 2) := by decide +kernel
theorem dX1_byFunction_293 : decode cX1_byFunction 293 = .ok (.iload_n 3, 1) := by decide +kernel
theorem dX1_byFunction_294 : decode cX1_byFunction 294 = .ok (.iastore, 1) := by decide +kernel
theorem dX1_byFunction_295 : decode cX1_byFunction 295 = .ok (.iconst 0, 1) := by decide +kernel
theorem dX1_byFunction_296 : decode cX1_byFunction 296 = .ok (.ireturn, 1) := by decide +kernel
theorem dX1_byFunction_297 : decode cX1_byFunction 297 = .ok (.aload_n 0, 1) := by decide +kernel
theorem dX1_byFunction_298 : decode cX1_byFunction 298 = .ok (.iload 5, 2) := by decide +kernel
theorem dX1_byFunction_300 : decode cX1_byFunction 300 = .ok (.aload_n 0, 1) := by decide +kernel
theorem dX1_byFunction_301 : decode cX1_byFunction 301 = .ok (.getfield 25, 3) := by decide +kernel
theorem dX1_byFunction_304 : decode cX1_byFunction 304 = .ok (.bipush 33, 2) := by decide +kernel
theorem dX1_byFunction_306 : decode cX1_byFunction 306 = .ok (.iaload, 1) := by decide +kernel
theorem dX1_byFunction_307 : decode cX1_byFunction 307 = .ok (.invokevirtual 93, 3) := by decide +kernel
theorem dX1_byFunction_310 : decode cX1_byFunction 310 = .ok (.iconst 0, 1) := by decide +kernel
theorem dX1_byFunction_311 : decode cX1_byFunction 311 = .ok (.ireturn, 1) := by decide +kernel
theorem dX1_byFunction_312 : decode cX1_byFunction 312 = .ok (.aload_n 0, 1) := by decide +kernel
theorem dX1_byFunction_313 : decode cX1_byFunction 313 = .ok (.getfield 25, 3) := by decide +kernel
theorem dX1_byFunction_316 : decode cX1_byFunction 316 = .ok (.bipush 33, 2) := by decide +kernel
theorem dX1_byFunction_318 : decode cX1_byFunction 318 = .ok (.iload_n 3, 1) := by decide +kernel
theorem dX1_byFunction_319 : decode cX1_byFunction 319 = .ok (.iastore, 1) := by decide +kernel
theorem dX1_byFunction_320 : decode cX1_byFunction 320 = .ok (.iconst 0, 1) := by decide +kernel
theorem dX1_byFunction_321 : decode cX1_byFunction 321 = .ok (.ireturn, 1) := by decide +kernel
theorem dX1_byFunction_322 : decode cX1_byFunction 322 = .ok (.aload_n 0, 1) := by decide +kernel
theorem dX1_byFunction_323 : decode cX1_byFunction 323 = .ok (.iload_n 3, 1) := by decide +kernel
theorem dX1_byFunction_324 : decode cX1_byFunction 324 = .ok (.i2l, 1) := by decide +kernel
theorem dX1_byFunction_325 : decode cX1_byFunction 325 = .ok (.iload 4, 2) := by decide +kernel
theorem dX1_byFunction_327 : decode cX1_byFunction 327 = .ok (.i2l, 1) := by decide +kernel
theorem dX1_byFunction_328 : decode cX1_byFunction 328 = .ok (.lmul, 1) := by decide +kernel
theorem dX1_byFunction_329 : decode cX1_byFunction 329 = .ok (.invokevirtual 101, 3) := by decide +kernel
theorem dX1_byFunction_332 : decode cX1_byFunction 332 = .ok (.iconst 0, 1) := by decide +kernel
theorem dX1_byFunction_333 : decode cX1_byFunction 333 = .ok (.ireturn, 1) := by decide +kernel
theorem dX1_byFunction_334 : decode cX1_byFunction 334 = .ok (.aload_n 0, 1) := by decide +kernel
theorem dX1_byFunction_335 : decode cX1_byFunction 335 = .ok (.iload_n 3, 1) := by decide +kernel
theorem dX1_byFunction_336 : decode cX1_byFunction 336 = .ok (.i2l, 1) := by decide +kernel
theorem dX1_byFunction_337 : decode cX1_byFunction 337 = .ok (.ldc2_w 105, 3) := by decide +kernel
theorem dX1_byFunction_340 : decode cX1_byFunction 340 = .ok (.land, 1) := by decide +kernel
theorem dX1_byFunction_341 : decode cX1_byFunction 341 = .ok (.iload 4, 2) := by decide +kernel
theorem dX1_byFunction_343 : decode cX1_byFunction 343 = .ok (.i2l, 1) := by decide +kernel
theorem dX1_byFunction_344 : decode cX1_byFunction 344 = .ok (.ldc2_w 105, 3) := by decide +kernel
theorem dX1_byFunction_347 : decode cX1_byFunction 347 = .ok (.land, 1) := by decide +kernel
theorem dX1_byFunction_348 : decode cX1_byFunction 348 = .ok (.lmul, 1) := by decide +kernel
theorem dX1_byFunction_349 : decode cX1_byFunction 349 = .ok (.invokevirtual 101, 3) := by decide +kernel
theorem dX1_byFunction_352 : decode cX1_byFunction 352 = .ok (.iconst 0, 1) := by decide +kernel
theorem dX1_byFunction_353 : decode cX1_byFunction 353 = .ok (.ireturn, 1) := by decide +kernel
theorem dX1_byFunction_354 : decode cX1_byFunction 354 = .ok (.aload_n 0, 1) := by decide +kernel
theorem dX1_byFunction_355 : decode cX1_byFunction 355 = .ok (.iload_n 3, 1) := by decide +kernel
theorem dX1_byFunction_356 : decode cX1_byFunction 356 = .ok (.iload 4, 2) := by decide +kernel
theorem dX1_byFunction_358 : decode cX1_byFunction 358 = .ok (.invokevirtual 107, 3) := by decide +kernel
theorem dX1_byFunction_361 : decode cX1_byFunction 361 = .ok (.iconst 0, 1) := by decide +kernel
theorem dX1_byFunction_362 : decode cX1_byFunction 362 = .ok (.ireturn, 1) := by decide +kernel
theorem dX1_byFunction_363 : decode cX1_byFunction 363 = .ok (.aload_n 0, 1) := by decide +kernel
theorem dX1_byFunction_364 : decode cX1_byFunction 364 = .ok (.iload_n 3, 1) := by decide +kernel
theorem dX1_byFunction_365 : decode cX1_byFunction 365 = .ok (.iload 4, 2) := by decide +kernel
theorem dX1_byFunction_367 : decode cX1_byFunction 367 = .ok (.invokevirtual 110, 3) := by decide +kernel
theorem dX1_byFunction_370 : decode cX1_byFunction 370 = .ok (.iconst 0, 1) := by decide +kernel
theorem dX1_byFunction_371 : decode cX1_byFunction 371 = .ok (.ireturn, 1) := by decide +kernel
theorem dX1_byFunction_372 : decode cX1_byFunction 372 = .ok (.aload_n 0, 1) := by decide +kernel
theorem dX1_byFunction_373 : decode cX1_byFunction 373 = .ok (.iload 5, 2) := by decide +kernel
theorem dX1_byFunction_375 : decode cX1_byFunction 375 = .ok (.iload_n 3, 1) := by decide +kernel
theorem dX1_byFunction_376 : decode cX1_byFunction 376 = .ok (.i2l, 1) := by decide +kernel
theorem dX1_byFunction_377 : decode cX1_byFunction 377 = .ok (.iload 4, 2) := by decide +kernel
theorem dX1_byFunction_379 : decode cX1_byFunction 379 = .ok (.i2l, 1) := by decide +kernel
theorem dX1_byFunction_380 : decode cX1_byFunction 380 = .ok (.ladd, 1) := by decide +kernel
theorem dX1_byFunction_381 : decode cX1_byFunction 381 = .ok (.invokevirtual 113, 3) := by decide +kernel
theorem dX1_byFunction_384 : decode cX1_byFunction 384 = .ok (.ireturn, 1) := by decide +kernel
theorem dX1_byFunction_385 : decode cX1_byFunction 385 = .ok (.aload_n 0, 1) := by decide +kernel
theorem dX1_byFunction_386 : decode cX1_byFunction 386 = .ok (.iload 5, 2) := by decide +kernel
theorem dX1_byFunction_388 : decode cX1_byFunction 388 = .ok (.iload_n 3, 1) := by decide +kernel
theorem dX1_byFunction_389 : decode cX1_byFunction 389 = .ok (.iload 4, 2) := by decide +kernel
theorem dX1_byFunction_391 : decode cX1_byFunction 391 = .ok (.iadd, 1) := by decide +kernel
theorem dX1_byFunction_392 : decode cX1_byFunction 392 = .ok (.invokevirtual 93, 3) := by decide +kernel
theorem dX1_byFunction_395 : decode cX1_byFunction 395 = .ok (.iconst 0, 1) := by decide +kernel
theorem dX1_byFunction_396 : decode cX1_byFunction 396 = .ok (.ireturn, 1) := by decide +kernel
theorem dX1_byFunction_397 : decode cX1_byFunction 397 = .ok (.aload_n 0, 1) := by decide +kernel
theorem dX1_byFunction_398 : decode cX1_byFunction 398 = .ok (.iload 5, 2) := by decide +kernel
theorem dX1_byFunction_400 : decode cX1_byFunction 400 = .ok (.iload_n 3, 1) := by decide +kernel
theorem dX1_byFunction_401 : decode cX1_byFunction 401 = .ok (.i2l, 1) := by decide +kernel
theorem dX1_byFunction_402 : decode cX1_byFunction 402 = .ok (.iload 4, 2) := by decide +kernel
theorem dX1_byFunction_404 : decode cX1_byFunction 404 = .ok (.i2l, 1) := by decide +kernel
theorem dX1_byFunction_405 : decode cX1_byFunction 405 = .ok (.lsub, 1) := by decide +kernel
theorem dX1_byFunction_406 : decode cX1_byFunction 406 = .ok (.invokevirtual 113, 3) := by decide +kernel
theorem dX1_byFunction_409 : decode cX1_byFunction 409 = .ok (.ireturn, 1) := by decide +kernel
theorem dX1_byFunction_410 : decode cX1_byFunction 410 = .ok (.aload_n 0, 1) := by decide +kernel
theorem dX1_byFunction_411 : decode cX1_byFunction 411 = .ok (.iload 5, 2) := by decide +kernel
theorem dX1_byFunction_413 : decode cX1_byFunction 413 = .ok (.iload_n 3, 1) := by decide +kernel
theorem dX1_byFunction_414 : decode cX1_byFunction 414 = .ok (.iload 4, 2) := by decide +kernel
theorem dX1_byFunction_416 : decode cX1_byFunction 416 = .ok (.isub, 1) := by decide +kernel
theorem dX1_byFunction_417 : decode cX1_byFunction 417 = .ok (.invokevirtual 93, 3) := by decide +kernel
theorem dX1_byFunction_420 : decode cX1_byFunction 420 = .ok (.iconst 0, 1) := by decide +kernel
theorem dX1_byFunction_421 : decode cX1_byFunction 421 = .ok (.ireturn, 1) := by decide +kernel
theorem dX1_byFunction_422 : decode cX1_byFunction 422 = .ok (.aload_n 0, 1) := by decide +kernel
theorem dX1_byFunction_423 : decode cX1_byFunction 423 = .ok (.iload 5, 2) := by decide +kernel
theorem dX1_byFunction_425 : decode cX1_byFunction 425 = .ok (.iload_n 3, 1) := by decide +kernel
theorem dX1_byFunction_426 : decode cX1_byFunction 426 = .ok (.iload 4, 2) := by decide +kernel
theorem dX1_byFunction_428 : decode cX1_byFunction 428 = .ok (.iand, 1) := by decide +kernel
theorem dX1_byFunction_429 : decode cX1_byFunction 429 = .ok (.invokevirtual 93, 3) := by decide +kernel
theorem dX1_byFunction_432 : decode cX1_byFunction 432 = .ok (.iconst 0, 1) := by decide +kernel
theorem dX1_byFunction_433 : decode cX1_byFunction 433 = .ok (.ireturn, 1) := by decide +kernel
theorem dX1_byFunction_434 : decode cX1_byFunction 434 = .ok (.aload_n 0, 1) := by decide +kernel
theorem dX1_byFunction_435 : decode cX1_byFunction 435 = .ok (.iload 5, 2) := by decide +kernel
theorem dX1_byFunction_437 : decode cX1_byFunction 437 = .ok (.iload_n 3, 1) := by decide +kernel
theorem dX1_byFunction_438 : decode cX1_byFunction 438 = .ok (.iload 4, 2) := by decide +kernel
theorem dX1_byFunction_440 : decode cX1_byFunction 440 = .ok (.ior, 1) := by decide +kernel
theorem dX1_byFunction_441 : decode cX1_byFunction 441 = .ok (.invokevirtual 93, 3) := by decide +kernel
theorem dX1_byFunction_444 : decode cX1_byFunction 444 = .ok (.iconst 0, 1) := by decide +kernel
theorem dX1_byFunction_445 : decode cX1_byFunction 445 = .ok (.ireturn, 1) := by decide +kernel
theorem dX1_byFunction_446 : decode cX1_byFunction 446 = .ok (.aload_n 0, 1) := by decide +kernel
theorem dX1_byFunction_447 : decode cX1_byFunction 447 = .ok (.iload 5, 2) := by decide +kernel
theorem dX1_byFunction_449 : decode cX1_byFunction 449 = .ok (.iload_n 3, 1) := by decide +kernel
theorem dX1_byFunction_450 : decode cX1_byFunction 450 = .ok (.iload 4, 2) := by decide +kernel
theorem dX1_byFunction_452 : decode cX1_byFunction 452 = .ok (.ixor, 1) := by decide +kernel
theorem dX1_byFunction_453 : decode cX1_byFunction 453 = .ok (.invokevirtual 93, 3) := by decide +kernel
theorem dX1_byFunction_456 : decode cX1_byFunction 456 = .ok (.iconst 0, 1) := by decide +kernel
theorem dX1_byFunction_457 : decode cX1_byFunction 457 = .ok (.ireturn, 1) := by decide +kernel
theorem dX1_byFunction_458 : decode cX1_byFunction 458 = .ok (.aload_n 0, 1) := by decide +kernel
theorem dX1_byFunction_459 : decode cX1_byFunction 459 = .ok (.iload 5, 2) := by decide +kernel
theorem dX1_byFunction_461 : decode cX1_byFunction 461 = .ok (.iload_n 3, 1) := by decide +kernel
theorem dX1_byFunction_462 : decode cX1_byFunction 462 = .ok (.iload 4, 2) := by decide +kernel
theorem dX1_byFunction_464 : decode cX1_byFunction 464 = .ok (.ior, 1) := by decide +kernel
theorem dX1_byFunction_465 : decode cX1_byFunction 465 = .ok (.iconst (-1), 1) := by decide +kernel
theorem dX1_byFunction_466 : decode cX1_byFunction 466 = .ok (.ixor, 1) := by decide +kernel
theorem dX1_byFunction_467 : decode cX1_byFunction 467 = .ok (.invokevirtual 93, 3) := by decide +kernel
theorem dX1_byFunction_470 : decode cX1_byFunction 470 = .ok (.iconst 0, 1) := by decide +kernel
theorem dX1_byFunction_471 : decode cX1_byFunction 471 = .ok (.ireturn, 1) := by decide +kernel
theorem dX1_byFunction_472 : decode cX1_byFunction 472 = .ok (.aload_n 0, 1) := by decide +kernel
theorem dX1_byFunction_473 : decode cX1_byFunction 473 = .ok (.iload 5, 2) := by decide +kernel
theorem dX1_byFunction_475 : decode cX1_byFunction 475 = .ok (.iload_n 3, 1) := by decide +kernel
theorem dX1_byFunction_476 : decode cX1_byFunction 476 = .ok (.iload 4, 2) := by decide +kernel
theorem dX1_byFunction_478 : decode cX1_byFunction 478 = .ok (.if_icmp .ge 7, 3) := by decide +kernel
theorem dX1_byFunction_481 : decode cX1_byFunction 481 = .ok (.iconst 1, 1) := by decide +kernel
theorem dX1_byFunction_482 : decode cX1_byFunction 482 = .ok (.goto 4, 3) := by decide +kernel
theorem dX1_byFunction_485 : decode cX1_byFunction 485 = .ok (.iconst 0, 1) := by decide +kernel
theorem dX1_byFunction_486 : decode cX1_byFunction 486 = .ok (.invokevirtual 93, 3) := by decide +kernel
theorem dX1_byFunction_489 : decode cX1_byFunction 489 = .ok (.iconst 0, 1) := by decide +kernel
theorem dX1_byFunction_490 : decode cX1_byFunction 490 = .ok (.ireturn, 1) := by decide +kernel
theorem dX1_byFunction_491 : decode cX1_byFunction 491 = .ok (.aload_n 0, 1) := by decide +kernel
theorem dX1_byFunction_492 : decode cX1_byFunction 492 = .ok (.iload 5, 2) := by decide +kernel
theorem dX1_byFunction_494 : decode cX1_byFunction 494 = .ok (.iload_n 3, 1) := by decide +kernel
theorem dX1_byFunction_495 : decode cX1_byFunction 495 = .ok (.i2l, 1) := by decide +kernel
theorem dX1_byFunction_496 : decode cX1_byFunction 496 = .ok (.ldc2_w 105, 3) := by decide +kernel
theorem dX1_byFunction_499 : decode cX1_byFunction 499 = .ok (.land, 1) := by decide +kernel
theorem dX1_byFunction_500 : decode cX1_byFunction 500 = .ok (.iload 4, 2) := by decide +kernel
theorem dX1_byFunction_502 : decode cX1_byFunction 502 = .ok (.i2l, 1) := by decide +kernel
theorem dX1_byFunction_503 : decode cX1_byFunction 503 = .ok (.ldc2_w 105, 3) := by decide +kernel
theorem dX1_byFunction_506 : decode cX1_byFunction 506 = .ok (.land, 1) := by decide +kernel
theorem dX1_byFunction_507 : decode cX1_byFunction 507 = .ok (.lcmp, 1) := by decide +kernel
theorem dX1_byFunction_508 : decode cX1_byFunction 508 = .ok (.ifCond .ge 7, 3) := by decide +kernel
theorem dX1_byFunction_511 : decode cX1_byFunction 511 = .ok (.iconst 1, 1) := by decide +kernel
theorem dX1_byFunction_512 : decode cX1_byFunction 512 = .ok (.goto 4, 3) := by decide +kernel
theorem dX1_byFunction_515 : decode cX1_byFunction 515 = .ok (.iconst 0, 1) := by decide +kernel
theorem dX1_byFunction_516 : decode cX1_byFunction 516 = .ok (.invokevirtual 93, 3) := by decide +kernel
theorem dX1_byFunction_519 : decode cX1_byFunction 519 = .ok (.iconst 0, 1) := by decide +kernel
theorem dX1_byFunction_520 : decode cX1_byFunction 520 = .ok (.ireturn, 1) := by decide +kernel
theorem dX1_byFunction_521 : decode cX1_byFunction 521 = .ok (.iconst 1, 1) := by decide +kernel
theorem dX1_byFunction_522 : decode cX1_byFunction 522 = .ok (.ireturn, 1) := by decide +kernel
theorem dX1_sum_0 : decode cX1_sum 0 = .ok (.lload_n 2, 1) := by decide +kernel
theorem dX1_sum_1 : decode cX1_sum 1 = .ok (.lload_n 2, 1) := by decide +kernel
theorem dX1_sum_2 : decode cX1_sum 2 = .ok (.l2i, 1) := by decide +kernel
theorem dX1_sum_3 : decode cX1_sum 3 = .ok (.i2l, 1) := by decide +kernel
theorem dX1_sum_4 : decode cX1_sum 4 = .ok (.lcmp, 1) := by decide +kernel
theorem dX1_sum_5 : decode cX1_sum 5 = .ok (.ifCond .eq 5, 3) := by decide +kernel
theorem dX1_sum_8 : decode cX1_sum 8 = .ok (.iconst 4, 1) := by decide +kernel
theorem dX1_sum_9 : decode cX1_sum 9 = .ok (.ireturn, 1) := by decide +kernel
theorem dX1_sum_10 : decode cX1_sum 10 = .ok (.aload_n 0, 1) := by decide +kernel
theorem dX1_sum_11 : decode cX1_sum 11 = .ok (.iload_n 1, 1) := by decide +kernel
theorem dX1_sum_12 : decode cX1_sum 12 = .ok (.lload_n 2, 1) := by decide +kernel
theorem dX1_sum_13 : decode cX1_sum 13 = .ok (.l2i, 1) := by decide +kernel
theorem dX1_sum_14 : decode cX1_sum 14 = .ok (.invokevirtual 93, 3) := by decide +kernel
theorem dX1_sum_17 : decode cX1_sum 17 = .ok (.iconst 0, 1) := by decide +kernel
theorem dX1_sum_18 : decode cX1_sum 18 = .ok (.ireturn, 1) := by decide +kernel
theorem dX1_halves_0 : decode cX1_halves 0 = .ok (.aload_n 0, 1) := by decide +kernel
theorem dX1_halves_1 : decode cX1_halves 1 = .ok (.getfield 25, 3) := by decide +kernel
theorem dX1_halves_4 : decode cX1_halves 4 = .ok (.bipush 32, 2) := by decide +kernel
theorem dX1_halves_6 : decode cX1_halves 6 = .ok (.lload_n 1, 1) := by decide +kernel
theorem dX1_halves_7 : decode cX1_halves 7 = .ok (.bipush 32, 2) := by decide +kernel
theorem dX1_halves_9 : decode cX1_halves 9 = .ok (.lushr, 1) := by decide +kernel
theorem dX1_halves_10 : decode cX1_halves 10 = .ok (.l2i, 1) := by decide +kernel
theorem dX1_halves_11 : decode cX1_halves 11 = .ok (.iastore, 1) := by decide +kernel
theorem dX1_halves_12 : decode cX1_halves 12 = .ok (.aload_n 0, 1) := by decide +kernel
theorem dX1_halves_13 : decode cX1_halves 13 = .ok (.getfield 25, 3) := by decide +kernel
theorem dX1_halves_16 : decode cX1_halves 16 = .ok (.bipush 33, 2) := by decide +kernel
theorem dX1_halves_18 : decode cX1_halves 18 = .ok (.lload_n 1, 1) := by decide +kernel
theorem dX1_halves_19 : decode cX1_halves 19 = .ok (.l2i, 1) := by decide +kernel
theorem dX1_halves_20 : decode cX1_halves 20 = .ok (.iastore, 1) := by decide +kernel
theorem dX1_halves_21 : decode cX1_halves 21 = .ok (.return_, 1) := by decide +kernel
theorem dX1_divide_0 : decode cX1_divide 0 = .ok (.iload_n 1, 1) := by decide +kernel
theorem dX1_divide_1 : decode cX1_divide 1 = .ok (.i2l, 1) := by decide +kernel
theorem dX1_divide_2 : decode cX1_divide 2 = .ok (.lstore_n 3, 1) := by decide +kernel
theorem dX1_divide_3 : decode cX1_divide 3 = .ok (.aload_n 0, 1) := by decide +kernel
theorem dX1_divide_4 : decode cX1_divide 4 = .ok (.getfield 25, 3) := by decide +kernel
theorem dX1_divide_7 : decode cX1_divide 7 = .ok (.bipush 33, 2) := by decide +kernel
theorem dX1_divide_9 : decode cX1_divide 9 = .ok (.iload_n 2, 1) := by decide +kernel
theorem dX1_divide_10 : decode cX1_divide 10 = .ok (.ifCond .ne 7, 3) := by decide +kernel
theorem dX1_divide_13 : decode cX1_divide 13 = .ok (.iconst (-1), 1) := by decide +kernel
theorem dX1_divide_14 : decode cX1_divide 14 = .ok (.goto 8, 3) := by decide +kernel
theorem dX1_divide_17 : decode cX1_divide 17 = .ok (.lload_n 3, 1) := by decide +kernel
theorem dX1_divide_18 : decode cX1_divide 18 = .ok (.iload_n 2, 1) := by decide +kernel
theorem dX1_divide_19 : decode cX1_divide 19 = .ok (.i2l, 1) := by decide +kernel
theorem dX1_divide_20 : decode cX1_divide 20 = .ok (.ldiv, 1) := by decide +kernel
theorem dX1_divide_21 : decode cX1_divide 21 = .ok (.l2i, 1) := by decide +kernel
theorem dX1_divide_22 : decode cX1_divide 22 = .ok (.iastore, 1) := by decide +kernel
theorem dX1_divide_23 : decode cX1_divide 23 = .ok (.aload_n 0, 1) := by decide +kernel
theorem dX1_divide_24 : decode cX1_divide 24 = .ok (.getfield 25, 3) := by decide +kernel
theorem dX1_divide_27 : decode cX1_divide 27 = .ok (.bipush 32, 2) := by decide +kernel
theorem dX1_divide_29 : decode cX1_divide 29 = .ok (.iload_n 2, 1) := by decide +kernel
theorem dX1_divide_30 : decode cX1_divide 30 = .ok (.ifCond .ne 7, 3) := by decide +kernel
theorem dX1_divide_33 : decode cX1_divide 33 = .ok (.iload_n 1, 1) := by decide +kernel
theorem dX1_divide_34 : decode cX1_divide 34 = .ok (.goto 8, 3) := by decide +kernel
theorem dX1_divide_37 : decode cX1_divide 37 = .ok (.lload_n 3, 1) := by decide +kernel
theorem dX1_divide_38 : decode cX1_divide 38 = .ok (.iload_n 2, 1) := by decide +kernel
theorem dX1_divide_39 : decode cX1_divide 39 = .ok (.i2l, 1) := by decide +kernel
theorem dX1_divide_40 : decode cX1_divide 40 = .ok (.lrem, 1) := by decide +kernel
theorem dX1_divide_41 : decode cX1_divide 41 = .ok (.l2i, 1) := by decide +kernel
theorem dX1_divide_42 : decode cX1_divide 42 = .ok (.iastore, 1) := by decide +kernel
theorem dX1_divide_43 : decode cX1_divide 43 = .ok (.return_, 1) := by decide +kernel
theorem dX1_divideBare_0 : decode cX1_divideBare 0 = .ok (.iload_n 1, 1) := by decide +kernel
theorem dX1_divideBare_1 : decode cX1_divideBare 1 = .ok (.i2l, 1) := by decide +kernel
theorem dX1_divideBare_2 : decode cX1_divideBare 2 = .ok (.ldc2_w 105, 3) := by decide +kernel
theorem dX1_divideBare_5 : decode cX1_divideBare 5 = .ok (.land, 1) := by decide +kernel
theorem dX1_divideBare_6 : decode cX1_divideBare 6 = .ok (.lstore_n 3, 1) := by decide +kernel
theorem dX1_divideBare_7 : decode cX1_divideBare 7 = .ok (.iload_n 2, 1) := by decide +kernel
theorem dX1_divideBare_8 : decode cX1_divideBare 8 = .ok (.i2l, 1) := by decide +kernel
theorem dX1_divideBare_9 : decode cX1_divideBare 9 = .ok (.ldc2_w 105, 3) := by decide +kernel
theorem dX1_divideBare_12 : decode cX1_divideBare 12 = .ok (.land, 1) := by decide +kernel
theorem dX1_divideBare_13 : decode cX1_divideBare 13 = .ok (.lstore 5, 2) := by decide +kernel
theorem dX1_divideBare_15 : decode cX1_divideBare 15 = .ok (.aload_n 0, 1) := by decide +kernel
theorem dX1_divideBare_16 : decode cX1_divideBare 16 = .ok (.getfield 25, 3) := by decide +kernel
theorem dX1_divideBare_19 : decode cX1_divideBare 19 = .ok (.bipush 33, 2) := by decide +kernel
theorem dX1_divideBare_21 : decode cX1_divideBare 21 = .ok (.lload 5, 2) := by decide +kernel
theorem dX1_divideBare_23 : decode cX1_divideBare 23 = .ok (.lconst 0, 1) := by decide +kernel
theorem dX1_divideBare_24 : decode cX1_divideBare 24 = .ok (.lcmp, 1) := by decide +kernel
theorem dX1_divideBare_25 : decode cX1_divideBare 25 = .ok (.ifCond .ne 7, 3) := by decide +kernel
theorem dX1_divideBare_28 : decode cX1_divideBare 28 = .ok (.iconst (-1), 1) := by decide +kernel
theorem dX1_divideBare_29 : decode cX1_divideBare 29 = .ok (.goto 8, 3) := by decide +kernel
theorem dX1_divideBare_32 : decode cX1_divideBare 32 = .ok (.lload_n 3, 1) := by decide +kernel
theorem dX1_divideBare_33 : decode cX1_divideBare 33 = .ok (.lload 5, 2) := by decide +kernel
theorem dX1_divideBare_35 : decode cX1_divideBare 35 = .ok (.ldiv, 1) := by decide +kernel
theorem dX1_divideBare_36 : decode cX1_divideBare 36 = .ok (.l2i, 1) := by decide +kernel
theorem dX1_divideBare_37 : decode cX1_divideBare 37 = .ok (.iastore, 1) := by decide +kernel
theorem dX1_divideBare_38 : decode cX1_divideBare 38 = .ok (.aload_n 0, 1) := by decide +kernel
theorem dX1_divideBare_39 : decode cX1_divideBare 39 = .ok (.getfield 25, 3) := by decide +kernel
theorem dX1_divideBare_42 : decode cX1_divideBare 42 = .ok (.bipush 32, 2) := by decide +kernel
theorem dX1_divideBare_44 : decode cX1_divideBare 44 = .ok (.lload 5, 2) := by decide +kernel
theorem dX1_divideBare_46 : decode cX1_divideBare 46 = .ok (.lconst 0, 1) := by decide +kernel
theorem dX1_divideBare_47 : decode cX1_divideBare 47 = .ok (.lcmp, 1) := by decide +kernel
theorem dX1_divideBare_48 : decode cX1_divideBare 48 = .ok (.ifCond .ne 7, 3) := by decide +kernel
theorem dX1_divideBare_51 : decode cX1_divideBare 51 = .ok (.iload_n 1, 1) := by decide +kernel
theorem dX1_divideBare_52 : decode cX1_divideBare 52 = .ok (.goto 8, 3) := by decide +kernel
theorem dX1_divideBare_55 : decode cX1_divideBare 55 = .ok (.lload_n 3, 1) := by decide +kernel
theorem dX1_divideBare_56 : decode cX1_divideBare 56 = .ok (.lload 5, 2) := by decide +kernel
theorem dX1_divideBare_58 : decode cX1_divideBare 58 = .ok (.lrem, 1) := by decide +kernel
theorem dX1_divideBare_59 : decode cX1_divideBare 59 = .ok (.l2i, 1) := by decide +kernel
theorem dX1_divideBare_60 : decode cX1_divideBare 60 = .ok (.iastore, 1) := by decide +kernel
theorem dX1_divideBare_61 : decode cX1_divideBare 61 = .ok (.return_, 1) := by decide +kernel
